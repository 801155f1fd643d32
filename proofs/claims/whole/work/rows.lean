section
-- ===== PART A: goes FIRST, ahead of the names: the tables' words, and 'selects' of the private methods out of them =====
/-- a private method of a class that the tables say can be made, by its rows of tables_1 -/
def lw_okq (q : MethodName × Nat) : Prop := (q.1.cls ≠ "java/lang/invoke/MethodHandle" ∧ q.1.cls ≠ "java/lang/invoke/VarHandle") ∧ Cond.instantiable q.1.cls q.2 ∈ tables_1 ∧ Cond.privateMethod q.1 ∈ tables_1 ∧ Cond.instanceMethod q.1 ∈ tables_1
theorem lw_p0 : lw_okq (⟨"SpellDesk", "doLine", "(II)V"⟩, 8) := ⟨⟨by decide +kernel, by decide +kernel⟩, List.mem_of_getElem? (i := 33) (by decide +kernel), List.mem_of_getElem? (i := 281) (by decide +kernel), List.mem_of_getElem? (i := 282) (by decide +kernel)⟩
theorem lw_p1 : lw_okq (⟨"SpellDesk", "doAdd", "()Z"⟩, 8) := ⟨⟨by decide +kernel, by decide +kernel⟩, List.mem_of_getElem? (i := 33) (by decide +kernel), List.mem_of_getElem? (i := 347) (by decide +kernel), List.mem_of_getElem? (i := 348) (by decide +kernel)⟩
theorem lw_p2 : lw_okq (⟨"SpellDesk$Printer", "print", "(C)V"⟩, 3) := ⟨⟨by decide +kernel, by decide +kernel⟩, List.mem_of_getElem? (i := 86) (by decide +kernel), List.mem_of_getElem? (i := 415) (by decide +kernel), List.mem_of_getElem? (i := 416) (by decide +kernel)⟩
theorem lw_p3 : lw_okq (⟨"java/util/ArrayList", "rangeCheckForAdd", "(I)V"⟩, 3) := ⟨⟨by decide +kernel, by decide +kernel⟩, List.mem_of_getElem? (i := 110) (by decide +kernel), List.mem_of_getElem? (i := 464) (by decide +kernel), List.mem_of_getElem? (i := 465) (by decide +kernel)⟩
theorem lw_p4 : lw_okq (⟨"java/lang/Throwable", "fillInStackTrace", "(I)Ljava/lang/Throwable;"⟩, 6) := ⟨⟨by decide +kernel, by decide +kernel⟩, List.mem_of_getElem? (i := 505) (by decide +kernel), List.mem_of_getElem? (i := 503) (by decide +kernel), List.mem_of_getElem? (i := 504) (by decide +kernel)⟩
theorem lw_p5 : lw_okq (⟨"java/util/ArrayList", "outOfBoundsMsg", "(I)Ljava/lang/String;"⟩, 3) := ⟨⟨by decide +kernel, by decide +kernel⟩, List.mem_of_getElem? (i := 110) (by decide +kernel), List.mem_of_getElem? (i := 508) (by decide +kernel), List.mem_of_getElem? (i := 509) (by decide +kernel)⟩
theorem lw_p6 : lw_okq (⟨"java/util/ArrayList", "grow", "()[Ljava/lang/Object;"⟩, 3) := ⟨⟨by decide +kernel, by decide +kernel⟩, List.mem_of_getElem? (i := 110) (by decide +kernel), List.mem_of_getElem? (i := 750) (by decide +kernel), List.mem_of_getElem? (i := 751) (by decide +kernel)⟩
theorem lw_p7 : lw_okq (⟨"java/util/ArrayList", "grow", "(I)[Ljava/lang/Object;"⟩, 3) := ⟨⟨by decide +kernel, by decide +kernel⟩, List.mem_of_getElem? (i := 110) (by decide +kernel), List.mem_of_getElem? (i := 754) (by decide +kernel), List.mem_of_getElem? (i := 755) (by decide +kernel)⟩
theorem lw_p8 : lw_okq (⟨"SpellDesk", "doDrop", "()Z"⟩, 8) := ⟨⟨by decide +kernel, by decide +kernel⟩, List.mem_of_getElem? (i := 33) (by decide +kernel), List.mem_of_getElem? (i := 793) (by decide +kernel), List.mem_of_getElem? (i := 794) (by decide +kernel)⟩
theorem lw_p9 : lw_okq (⟨"java/util/ArrayList", "fastRemove", "([Ljava/lang/Object;I)V"⟩, 3) := ⟨⟨by decide +kernel, by decide +kernel⟩, List.mem_of_getElem? (i := 110) (by decide +kernel), List.mem_of_getElem? (i := 824) (by decide +kernel), List.mem_of_getElem? (i := 825) (by decide +kernel)⟩
theorem lw_p10 : lw_okq (⟨"SpellDesk", "doRule", "(LSpellDesk$RuleList;)Z"⟩, 8) := ⟨⟨by decide +kernel, by decide +kernel⟩, List.mem_of_getElem? (i := 33) (by decide +kernel), List.mem_of_getElem? (i := 829) (by decide +kernel), List.mem_of_getElem? (i := 830) (by decide +kernel)⟩
theorem lw_p11 : lw_okq (⟨"SpellDesk", "readRule", "(Z)LSpellDesk$Rule;"⟩, 8) := ⟨⟨by decide +kernel, by decide +kernel⟩, List.mem_of_getElem? (i := 33) (by decide +kernel), List.mem_of_getElem? (i := 837) (by decide +kernel), List.mem_of_getElem? (i := 838) (by decide +kernel)⟩
theorem lw_p12 : lw_okq (⟨"java/util/ArrayList", "add", "(Ljava/lang/Object;[Ljava/lang/Object;I)V"⟩, 3) := ⟨⟨by decide +kernel, by decide +kernel⟩, List.mem_of_getElem? (i := 110) (by decide +kernel), List.mem_of_getElem? (i := 871) (by decide +kernel), List.mem_of_getElem? (i := 872) (by decide +kernel)⟩
theorem lw_p13 : lw_okq (⟨"SpellDesk", "doCheck", "()Z"⟩, 8) := ⟨⟨by decide +kernel, by decide +kernel⟩, List.mem_of_getElem? (i := 33) (by decide +kernel), List.mem_of_getElem? (i := 877) (by decide +kernel), List.mem_of_getElem? (i := 878) (by decide +kernel)⟩
theorem lw_p14 : lw_okq (⟨"SpellDesk$Rule", "stands", "(LSpellDesk$Letters;LSpellDesk$Letters;II)Z"⟩, 5) := ⟨⟨by decide +kernel, by decide +kernel⟩, List.mem_of_getElem? (i := 150) (by decide +kernel), List.mem_of_getElem? (i := 922) (by decide +kernel), List.mem_of_getElem? (i := 923) (by decide +kernel)⟩
theorem lw_p15 : lw_okq (⟨"SpellDesk$Speller", "undo", "(LSpellDesk$Rule;LSpellDesk$Rule;LSpellDesk$Letters;II)Z"⟩, 8) := ⟨⟨by decide +kernel, by decide +kernel⟩, List.mem_of_getElem? (i := 184) (by decide +kernel), List.mem_of_getElem? (i := 928) (by decide +kernel), List.mem_of_getElem? (i := 929) (by decide +kernel)⟩
def lw_privs_1 : List (MethodName × Nat) := [(⟨"SpellDesk", "doLine", "(II)V"⟩, 8), (⟨"SpellDesk", "doAdd", "()Z"⟩, 8), (⟨"SpellDesk$Printer", "print", "(C)V"⟩, 3), (⟨"java/util/ArrayList", "rangeCheckForAdd", "(I)V"⟩, 3), (⟨"java/lang/Throwable", "fillInStackTrace", "(I)Ljava/lang/Throwable;"⟩, 6), (⟨"java/util/ArrayList", "outOfBoundsMsg", "(I)Ljava/lang/String;"⟩, 3), (⟨"java/util/ArrayList", "grow", "()[Ljava/lang/Object;"⟩, 3), (⟨"java/util/ArrayList", "grow", "(I)[Ljava/lang/Object;"⟩, 3), (⟨"SpellDesk", "doDrop", "()Z"⟩, 8), (⟨"java/util/ArrayList", "fastRemove", "([Ljava/lang/Object;I)V"⟩, 3), (⟨"SpellDesk", "doRule", "(LSpellDesk$RuleList;)Z"⟩, 8), (⟨"SpellDesk", "readRule", "(Z)LSpellDesk$Rule;"⟩, 8), (⟨"java/util/ArrayList", "add", "(Ljava/lang/Object;[Ljava/lang/Object;I)V"⟩, 3), (⟨"SpellDesk", "doCheck", "()Z"⟩, 8), (⟨"SpellDesk$Rule", "stands", "(LSpellDesk$Letters;LSpellDesk$Letters;II)Z"⟩, 5), (⟨"SpellDesk$Speller", "undo", "(LSpellDesk$Rule;LSpellDesk$Rule;LSpellDesk$Letters;II)Z"⟩, 8)]
theorem lw_r1 : ∀ q ∈ lw_privs_1, lw_okq q := List.forall_mem_cons.mpr ⟨lw_p0, List.forall_mem_cons.mpr ⟨lw_p1, List.forall_mem_cons.mpr ⟨lw_p2, List.forall_mem_cons.mpr ⟨lw_p3, List.forall_mem_cons.mpr ⟨lw_p4, List.forall_mem_cons.mpr ⟨lw_p5, List.forall_mem_cons.mpr ⟨lw_p6, List.forall_mem_cons.mpr ⟨lw_p7, List.forall_mem_cons.mpr ⟨lw_p8, List.forall_mem_cons.mpr ⟨lw_p9, List.forall_mem_cons.mpr ⟨lw_p10, List.forall_mem_cons.mpr ⟨lw_p11, List.forall_mem_cons.mpr ⟨lw_p12, List.forall_mem_cons.mpr ⟨lw_p13, List.forall_mem_cons.mpr ⟨lw_p14, List.forall_mem_cons.mpr ⟨lw_p15, fun _ h => absurd h List.not_mem_nil⟩⟩⟩⟩⟩⟩⟩⟩⟩⟩⟩⟩⟩⟩⟩⟩
theorem lw_p16 : lw_okq (⟨"SpellDesk$Speller", "putWay", "(I)V"⟩, 8) := ⟨⟨by decide +kernel, by decide +kernel⟩, List.mem_of_getElem? (i := 184) (by decide +kernel), List.mem_of_getElem? (i := 947) (by decide +kernel), List.mem_of_getElem? (i := 948) (by decide +kernel)⟩
theorem lw_p17 : lw_okq (⟨"SpellDesk", "doLook", "()Z"⟩, 8) := ⟨⟨by decide +kernel, by decide +kernel⟩, List.mem_of_getElem? (i := 33) (by decide +kernel), List.mem_of_getElem? (i := 969) (by decide +kernel), List.mem_of_getElem? (i := 970) (by decide +kernel)⟩
theorem lw_p18 : lw_okq (⟨"SpellDesk", "doWhy", "()Z"⟩, 8) := ⟨⟨by decide +kernel, by decide +kernel⟩, List.mem_of_getElem? (i := 33) (by decide +kernel), List.mem_of_getElem? (i := 981) (by decide +kernel), List.mem_of_getElem? (i := 982) (by decide +kernel)⟩
theorem lw_p19 : lw_okq (⟨"SpellDesk$Speller", "way", "(I)I"⟩, 8) := ⟨⟨by decide +kernel, by decide +kernel⟩, List.mem_of_getElem? (i := 184) (by decide +kernel), List.mem_of_getElem? (i := 989) (by decide +kernel), List.mem_of_getElem? (i := 990) (by decide +kernel)⟩
theorem lw_p20 : lw_okq (⟨"SpellDesk", "printWay", "(LSpellDesk$Entry;II)V"⟩, 8) := ⟨⟨by decide +kernel, by decide +kernel⟩, List.mem_of_getElem? (i := 33) (by decide +kernel), List.mem_of_getElem? (i := 1002) (by decide +kernel), List.mem_of_getElem? (i := 1003) (by decide +kernel)⟩
theorem lw_p21 : lw_okq (⟨"SpellDesk", "doForms", "()Z"⟩, 8) := ⟨⟨by decide +kernel, by decide +kernel⟩, List.mem_of_getElem? (i := 33) (by decide +kernel), List.mem_of_getElem? (i := 1016) (by decide +kernel), List.mem_of_getElem? (i := 1017) (by decide +kernel)⟩
theorem lw_p22 : lw_okq (⟨"SpellDesk$Speller", "putForm", "(LSpellDesk$Entry;LSpellDesk$Rule;LSpellDesk$Rule;)V"⟩, 8) := ⟨⟨by decide +kernel, by decide +kernel⟩, List.mem_of_getElem? (i := 184) (by decide +kernel), List.mem_of_getElem? (i := 1025) (by decide +kernel), List.mem_of_getElem? (i := 1026) (by decide +kernel)⟩
theorem lw_p23 : lw_okq (⟨"SpellDesk", "doCount", "()Z"⟩, 8) := ⟨⟨by decide +kernel, by decide +kernel⟩, List.mem_of_getElem? (i := 33) (by decide +kernel), List.mem_of_getElem? (i := 1035) (by decide +kernel), List.mem_of_getElem? (i := 1036) (by decide +kernel)⟩
theorem lw_p24 : lw_okq (⟨"SpellDesk", "doClear", "()Z"⟩, 8) := ⟨⟨by decide +kernel, by decide +kernel⟩, List.mem_of_getElem? (i := 33) (by decide +kernel), List.mem_of_getElem? (i := 1040) (by decide +kernel), List.mem_of_getElem? (i := 1041) (by decide +kernel)⟩
theorem lw_p25 : lw_okq (⟨"SpellDesk", "appendCharacters", "(I)V"⟩, 8) := ⟨⟨by decide +kernel, by decide +kernel⟩, List.mem_of_getElem? (i := 33) (by decide +kernel), List.mem_of_getElem? (i := 1128) (by decide +kernel), List.mem_of_getElem? (i := 1129) (by decide +kernel)⟩
theorem lw_p26 : lw_okq (⟨"SpellDeskModel", "next", "()Z"⟩, 26) := ⟨⟨by decide +kernel, by decide +kernel⟩, List.mem_of_getElem? (i := 1148) (by decide +kernel), List.mem_of_getElem? (i := 1252) (by decide +kernel), List.mem_of_getElem? (i := 1253) (by decide +kernel)⟩
theorem lw_p27 : lw_okq (⟨"SpellDeskModel", "line", "()V"⟩, 26) := ⟨⟨by decide +kernel, by decide +kernel⟩, List.mem_of_getElem? (i := 1148) (by decide +kernel), List.mem_of_getElem? (i := 1256) (by decide +kernel), List.mem_of_getElem? (i := 1257) (by decide +kernel)⟩
theorem lw_p28 : lw_okq (⟨"SpellDeskModel", "is", "(J)Z"⟩, 26) := ⟨⟨by decide +kernel, by decide +kernel⟩, List.mem_of_getElem? (i := 1148) (by decide +kernel), List.mem_of_getElem? (i := 1261) (by decide +kernel), List.mem_of_getElem? (i := 1262) (by decide +kernel)⟩
theorem lw_p29 : lw_okq (⟨"SpellDeskModel", "add", "()V"⟩, 26) := ⟨⟨by decide +kernel, by decide +kernel⟩, List.mem_of_getElem? (i := 1148) (by decide +kernel), List.mem_of_getElem? (i := 1265) (by decide +kernel), List.mem_of_getElem? (i := 1266) (by decide +kernel)⟩
theorem lw_p30 : lw_okq (⟨"SpellDeskModel", "must", "()Z"⟩, 26) := ⟨⟨by decide +kernel, by decide +kernel⟩, List.mem_of_getElem? (i := 1148) (by decide +kernel), List.mem_of_getElem? (i := 1269) (by decide +kernel), List.mem_of_getElem? (i := 1270) (by decide +kernel)⟩
theorem lw_p31 : lw_okq (⟨"SpellDeskModel", "areLetters", "(IIIZ)Z"⟩, 26) := ⟨⟨by decide +kernel, by decide +kernel⟩, List.mem_of_getElem? (i := 1148) (by decide +kernel), List.mem_of_getElem? (i := 1273) (by decide +kernel), List.mem_of_getElem? (i := 1274) (by decide +kernel)⟩
def lw_privs_2 : List (MethodName × Nat) := [(⟨"SpellDesk$Speller", "putWay", "(I)V"⟩, 8), (⟨"SpellDesk", "doLook", "()Z"⟩, 8), (⟨"SpellDesk", "doWhy", "()Z"⟩, 8), (⟨"SpellDesk$Speller", "way", "(I)I"⟩, 8), (⟨"SpellDesk", "printWay", "(LSpellDesk$Entry;II)V"⟩, 8), (⟨"SpellDesk", "doForms", "()Z"⟩, 8), (⟨"SpellDesk$Speller", "putForm", "(LSpellDesk$Entry;LSpellDesk$Rule;LSpellDesk$Rule;)V"⟩, 8), (⟨"SpellDesk", "doCount", "()Z"⟩, 8), (⟨"SpellDesk", "doClear", "()Z"⟩, 8), (⟨"SpellDesk", "appendCharacters", "(I)V"⟩, 8), (⟨"SpellDeskModel", "next", "()Z"⟩, 26), (⟨"SpellDeskModel", "line", "()V"⟩, 26), (⟨"SpellDeskModel", "is", "(J)Z"⟩, 26), (⟨"SpellDeskModel", "add", "()V"⟩, 26), (⟨"SpellDeskModel", "must", "()Z"⟩, 26), (⟨"SpellDeskModel", "areLetters", "(IIIZ)Z"⟩, 26)]
theorem lw_r2 : ∀ q ∈ lw_privs_2, lw_okq q := List.forall_mem_cons.mpr ⟨lw_p16, List.forall_mem_cons.mpr ⟨lw_p17, List.forall_mem_cons.mpr ⟨lw_p18, List.forall_mem_cons.mpr ⟨lw_p19, List.forall_mem_cons.mpr ⟨lw_p20, List.forall_mem_cons.mpr ⟨lw_p21, List.forall_mem_cons.mpr ⟨lw_p22, List.forall_mem_cons.mpr ⟨lw_p23, List.forall_mem_cons.mpr ⟨lw_p24, List.forall_mem_cons.mpr ⟨lw_p25, List.forall_mem_cons.mpr ⟨lw_p26, List.forall_mem_cons.mpr ⟨lw_p27, List.forall_mem_cons.mpr ⟨lw_p28, List.forall_mem_cons.mpr ⟨lw_p29, List.forall_mem_cons.mpr ⟨lw_p30, List.forall_mem_cons.mpr ⟨lw_p31, fun _ h => absurd h List.not_mem_nil⟩⟩⟩⟩⟩⟩⟩⟩⟩⟩⟩⟩⟩⟩⟩⟩
theorem lw_p32 : lw_okq (⟨"SpellDeskModel", "refuse", "()Z"⟩, 26) := ⟨⟨by decide +kernel, by decide +kernel⟩, List.mem_of_getElem? (i := 1148) (by decide +kernel), List.mem_of_getElem? (i := 1283) (by decide +kernel), List.mem_of_getElem? (i := 1284) (by decide +kernel)⟩
theorem lw_p33 : lw_okq (⟨"SpellDeskModel", "mustEnd", "()Z"⟩, 26) := ⟨⟨by decide +kernel, by decide +kernel⟩, List.mem_of_getElem? (i := 1148) (by decide +kernel), List.mem_of_getElem? (i := 1287) (by decide +kernel), List.mem_of_getElem? (i := 1288) (by decide +kernel)⟩
theorem lw_p34 : lw_okq (⟨"SpellDeskModel", "find", "([III)I"⟩, 26) := ⟨⟨by decide +kernel, by decide +kernel⟩, List.mem_of_getElem? (i := 1148) (by decide +kernel), List.mem_of_getElem? (i := 1291) (by decide +kernel), List.mem_of_getElem? (i := 1292) (by decide +kernel)⟩
theorem lw_p35 : lw_okq (⟨"SpellDeskModel", "put", "(I)V"⟩, 26) := ⟨⟨by decide +kernel, by decide +kernel⟩, List.mem_of_getElem? (i := 1148) (by decide +kernel), List.mem_of_getElem? (i := 1298) (by decide +kernel), List.mem_of_getElem? (i := 1299) (by decide +kernel)⟩
theorem lw_p36 : lw_okq (⟨"SpellDeskModel", "full", "()V"⟩, 26) := ⟨⟨by decide +kernel, by decide +kernel⟩, List.mem_of_getElem? (i := 1148) (by decide +kernel), List.mem_of_getElem? (i := 1302) (by decide +kernel), List.mem_of_getElem? (i := 1303) (by decide +kernel)⟩
theorem lw_p37 : lw_okq (⟨"SpellDeskModel", "ok", "()V"⟩, 26) := ⟨⟨by decide +kernel, by decide +kernel⟩, List.mem_of_getElem? (i := 1148) (by decide +kernel), List.mem_of_getElem? (i := 1306) (by decide +kernel), List.mem_of_getElem? (i := 1307) (by decide +kernel)⟩
theorem lw_p38 : lw_okq (⟨"SpellDeskModel", "word", "(I)Z"⟩, 26) := ⟨⟨by decide +kernel, by decide +kernel⟩, List.mem_of_getElem? (i := 1148) (by decide +kernel), List.mem_of_getElem? (i := 1311) (by decide +kernel), List.mem_of_getElem? (i := 1312) (by decide +kernel)⟩
theorem lw_p39 : lw_okq (⟨"SpellDeskModel", "drop", "(II)V"⟩, 26) := ⟨⟨by decide +kernel, by decide +kernel⟩, List.mem_of_getElem? (i := 1148) (by decide +kernel), List.mem_of_getElem? (i := 1315) (by decide +kernel), List.mem_of_getElem? (i := 1316) (by decide +kernel)⟩
theorem lw_p40 : lw_okq (⟨"SpellDeskModel", "none", "()V"⟩, 26) := ⟨⟨by decide +kernel, by decide +kernel⟩, List.mem_of_getElem? (i := 1148) (by decide +kernel), List.mem_of_getElem? (i := 1319) (by decide +kernel), List.mem_of_getElem? (i := 1320) (by decide +kernel)⟩
theorem lw_p41 : lw_okq (⟨"SpellDeskModel", "rule", "(I)V"⟩, 26) := ⟨⟨by decide +kernel, by decide +kernel⟩, List.mem_of_getElem? (i := 1148) (by decide +kernel), List.mem_of_getElem? (i := 1324) (by decide +kernel), List.mem_of_getElem? (i := 1325) (by decide +kernel)⟩
theorem lw_p42 : lw_okq (⟨"SpellDeskModel", "check", "()V"⟩, 26) := ⟨⟨by decide +kernel, by decide +kernel⟩, List.mem_of_getElem? (i := 1148) (by decide +kernel), List.mem_of_getElem? (i := 1330) (by decide +kernel), List.mem_of_getElem? (i := 1331) (by decide +kernel)⟩
theorem lw_p43 : lw_okq (⟨"SpellDeskModel", "isRight", "(II)Z"⟩, 26) := ⟨⟨by decide +kernel, by decide +kernel⟩, List.mem_of_getElem? (i := 1148) (by decide +kernel), List.mem_of_getElem? (i := 1334) (by decide +kernel), List.mem_of_getElem? (i := 1335) (by decide +kernel)⟩
theorem lw_p44 : lw_okq (⟨"SpellDeskModel", "make", "(III)Z"⟩, 26) := ⟨⟨by decide +kernel, by decide +kernel⟩, List.mem_of_getElem? (i := 1148) (by decide +kernel), List.mem_of_getElem? (i := 1344) (by decide +kernel), List.mem_of_getElem? (i := 1345) (by decide +kernel)⟩
theorem lw_p45 : lw_okq (⟨"SpellDeskModel", "goes", "(II)Z"⟩, 26) := ⟨⟨by decide +kernel, by decide +kernel⟩, List.mem_of_getElem? (i := 1148) (by decide +kernel), List.mem_of_getElem? (i := 1348) (by decide +kernel), List.mem_of_getElem? (i := 1349) (by decide +kernel)⟩
theorem lw_p46 : lw_okq (⟨"SpellDeskModel", "putWords", "([I)V"⟩, 26) := ⟨⟨by decide +kernel, by decide +kernel⟩, List.mem_of_getElem? (i := 1148) (by decide +kernel), List.mem_of_getElem? (i := 1352) (by decide +kernel), List.mem_of_getElem? (i := 1353) (by decide +kernel)⟩
theorem lw_p47 : lw_okq (⟨"SpellDeskModel", "look", "(II)V"⟩, 26) := ⟨⟨by decide +kernel, by decide +kernel⟩, List.mem_of_getElem? (i := 1148) (by decide +kernel), List.mem_of_getElem? (i := 1357) (by decide +kernel), List.mem_of_getElem? (i := 1358) (by decide +kernel)⟩
def lw_privs_3 : List (MethodName × Nat) := [(⟨"SpellDeskModel", "refuse", "()Z"⟩, 26), (⟨"SpellDeskModel", "mustEnd", "()Z"⟩, 26), (⟨"SpellDeskModel", "find", "([III)I"⟩, 26), (⟨"SpellDeskModel", "put", "(I)V"⟩, 26), (⟨"SpellDeskModel", "full", "()V"⟩, 26), (⟨"SpellDeskModel", "ok", "()V"⟩, 26), (⟨"SpellDeskModel", "word", "(I)Z"⟩, 26), (⟨"SpellDeskModel", "drop", "(II)V"⟩, 26), (⟨"SpellDeskModel", "none", "()V"⟩, 26), (⟨"SpellDeskModel", "rule", "(I)V"⟩, 26), (⟨"SpellDeskModel", "check", "()V"⟩, 26), (⟨"SpellDeskModel", "isRight", "(II)Z"⟩, 26), (⟨"SpellDeskModel", "make", "(III)Z"⟩, 26), (⟨"SpellDeskModel", "goes", "(II)Z"⟩, 26), (⟨"SpellDeskModel", "putWords", "([I)V"⟩, 26), (⟨"SpellDeskModel", "look", "(II)V"⟩, 26)]
theorem lw_r3 : ∀ q ∈ lw_privs_3, lw_okq q := List.forall_mem_cons.mpr ⟨lw_p32, List.forall_mem_cons.mpr ⟨lw_p33, List.forall_mem_cons.mpr ⟨lw_p34, List.forall_mem_cons.mpr ⟨lw_p35, List.forall_mem_cons.mpr ⟨lw_p36, List.forall_mem_cons.mpr ⟨lw_p37, List.forall_mem_cons.mpr ⟨lw_p38, List.forall_mem_cons.mpr ⟨lw_p39, List.forall_mem_cons.mpr ⟨lw_p40, List.forall_mem_cons.mpr ⟨lw_p41, List.forall_mem_cons.mpr ⟨lw_p42, List.forall_mem_cons.mpr ⟨lw_p43, List.forall_mem_cons.mpr ⟨lw_p44, List.forall_mem_cons.mpr ⟨lw_p45, List.forall_mem_cons.mpr ⟨lw_p46, List.forall_mem_cons.mpr ⟨lw_p47, fun _ h => absurd h List.not_mem_nil⟩⟩⟩⟩⟩⟩⟩⟩⟩⟩⟩⟩⟩⟩⟩⟩
theorem lw_p48 : lw_okq (⟨"SpellDeskModel", "behind", "(I)I"⟩, 26) := ⟨⟨by decide +kernel, by decide +kernel⟩, List.mem_of_getElem? (i := 1148) (by decide +kernel), List.mem_of_getElem? (i := 1361) (by decide +kernel), List.mem_of_getElem? (i := 1362) (by decide +kernel)⟩
theorem lw_p49 : lw_okq (⟨"SpellDeskModel", "putEntry", "(I)V"⟩, 26) := ⟨⟨by decide +kernel, by decide +kernel⟩, List.mem_of_getElem? (i := 1148) (by decide +kernel), List.mem_of_getElem? (i := 1365) (by decide +kernel), List.mem_of_getElem? (i := 1366) (by decide +kernel)⟩
theorem lw_p50 : lw_okq (⟨"SpellDeskModel", "why", "(II)V"⟩, 26) := ⟨⟨by decide +kernel, by decide +kernel⟩, List.mem_of_getElem? (i := 1148) (by decide +kernel), List.mem_of_getElem? (i := 1370) (by decide +kernel), List.mem_of_getElem? (i := 1371) (by decide +kernel)⟩
theorem lw_p51 : lw_okq (⟨"SpellDeskModel", "putNumber", "(I)V"⟩, 26) := ⟨⟨by decide +kernel, by decide +kernel⟩, List.mem_of_getElem? (i := 1148) (by decide +kernel), List.mem_of_getElem? (i := 1374) (by decide +kernel), List.mem_of_getElem? (i := 1375) (by decide +kernel)⟩
theorem lw_p52 : lw_okq (⟨"SpellDeskModel", "formsOf", "(II)V"⟩, 26) := ⟨⟨by decide +kernel, by decide +kernel⟩, List.mem_of_getElem? (i := 1148) (by decide +kernel), List.mem_of_getElem? (i := 1379) (by decide +kernel), List.mem_of_getElem? (i := 1380) (by decide +kernel)⟩
def lw_privs_4 : List (MethodName × Nat) := [(⟨"SpellDeskModel", "behind", "(I)I"⟩, 26), (⟨"SpellDeskModel", "putEntry", "(I)V"⟩, 26), (⟨"SpellDeskModel", "why", "(II)V"⟩, 26), (⟨"SpellDeskModel", "putNumber", "(I)V"⟩, 26), (⟨"SpellDeskModel", "formsOf", "(II)V"⟩, 26)]
theorem lw_r4 : ∀ q ∈ lw_privs_4, lw_okq q := List.forall_mem_cons.mpr ⟨lw_p48, List.forall_mem_cons.mpr ⟨lw_p49, List.forall_mem_cons.mpr ⟨lw_p50, List.forall_mem_cons.mpr ⟨lw_p51, List.forall_mem_cons.mpr ⟨lw_p52, fun _ h => absurd h List.not_mem_nil⟩⟩⟩⟩⟩
def lw_privs : List (MethodName × Nat) := lw_privs_1 ++ (lw_privs_2 ++ (lw_privs_3 ++ (lw_privs_4)))
def lw_tbl : List Cond := k2_sels lw_privs ++ tables_1
theorem lw_privs_ok : ∀ q ∈ lw_privs, lw_okq q := by
  show ∀ q ∈ lw_privs_1 ++ (lw_privs_2 ++ (lw_privs_3 ++ (lw_privs_4))), lw_okq q
  exact List.forall_mem_append.mpr ⟨lw_r1, List.forall_mem_append.mpr ⟨lw_r2, List.forall_mem_append.mpr ⟨lw_r3, lw_r4⟩⟩⟩
end
section
/-! the words of the tables that go on to a callee -/
def gTbl : List Cond := lw_tbl.filter goodWord
theorem gt_in {w : Cond} {i : Nat} (h : tables_1[i]? = some w) (hg : goodWord w = true) : w ∈ gTbl := List.mem_filter.mpr ⟨List.mem_append_right _ (List.mem_of_getElem? h), hg⟩
theorem gt_sel {y : MethodName} {n i : Nat} (h : lw_privs[i]? = some (y, n)) : Cond.selects y.cls y y ∈ gTbl := List.mem_filter.mpr ⟨List.mem_append_left _ (List.mem_map.mpr ⟨(y, n), List.mem_of_getElem? h, rfl⟩), rfl⟩
theorem gTbl_good : ∀ w ∈ gTbl, (w.onTables && w.keeps) = true ∨ ∃ ty, w = .arrayClass ty := fun _ h => good_of_word (List.mem_filter.mp h).2
/-! the classes -/
def R_SD : String := "SpellDesk"
def F_SD : u_T := fun k => match k with
  | 0 => ("SpellDesk", "text", "LSpellDesk$Letters;", true)
  | 1 => ("SpellDesk", "line", "LSpellDesk$Line;", true)
  | 2 => ("SpellDesk", "printer", "LSpellDesk$Printer;", true)
  | 3 => ("SpellDesk", "dictionary", "LSpellDesk$Dictionary;", true)
  | 4 => ("SpellDesk", "prefixes", "LSpellDesk$RuleList;", true)
  | 5 => ("SpellDesk", "suffixes", "LSpellDesk$RuleList;", true)
  | 6 => ("SpellDesk", "speller", "LSpellDesk$Speller;", true)
  | _ => ("SpellDesk", "asked", "LSpellDesk$WordList;", true)
def t_SD : Nat → FieldType := fun k => match k with
  | 0 => .object "SpellDesk$Letters"
  | 1 => .object "SpellDesk$Line"
  | 2 => .object "SpellDesk$Printer"
  | 3 => .object "SpellDesk$Dictionary"
  | 4 => .object "SpellDesk$RuleList"
  | 5 => .object "SpellDesk$RuleList"
  | 6 => .object "SpellDesk$Speller"
  | _ => .object "SpellDesk$WordList"
theorem nm_SD : ∀ a, a < 8 → ∀ b, b < 8 → a ≠ b → (F_SD a).2.1 ≠ (F_SD b).2.1 := by decide +kernel
theorem ty_SD : ∀ k, k < 8 → parseFieldDescriptor (F_SD k).2.2.1 = some (t_SD k) := by decide +kernel
theorem in_SD : ∀ w ∈ u_ws R_SD F_SD 8, w ∈ gTbl := by
  intro w hw
  obtain ⟨k, hk, rfl⟩ := List.mem_map.mp hw
  have hk : k < 8 := List.mem_range.mp hk
  rcases (show k = 0 ∨ k = 1 ∨ k = 2 ∨ k = 3 ∨ k = 4 ∨ k = 5 ∨ k = 6 ∨ k = 7 by omega) with rfl | rfl | rfl | rfl | rfl | rfl | rfl | rfl
  · exact gt_in (i := 247) (by decide +kernel) (by decide +kernel)
  · exact gt_in (i := 249) (by decide +kernel) (by decide +kernel)
  · exact gt_in (i := 251) (by decide +kernel) (by decide +kernel)
  · exact gt_in (i := 253) (by decide +kernel) (by decide +kernel)
  · exact gt_in (i := 255) (by decide +kernel) (by decide +kernel)
  · exact gt_in (i := 257) (by decide +kernel) (by decide +kernel)
  · exact gt_in (i := 259) (by decide +kernel) (by decide +kernel)
  · exact gt_in (i := 261) (by decide +kernel) (by decide +kernel)
def R_Dc : String := "SpellDesk$Dictionary"
def F_Dc : u_T := fun k => match k with
  | _ => ("SpellDesk$Dictionary", "list", "Ljava/util/ArrayList;", true)
def t_Dc : Nat → FieldType := fun k => match k with
  | _ => .object "java/util/ArrayList"
theorem nm_Dc : ∀ a, a < 1 → ∀ b, b < 1 → a ≠ b → (F_Dc a).2.1 ≠ (F_Dc b).2.1 := by decide +kernel
theorem ty_Dc : ∀ k, k < 1 → parseFieldDescriptor (F_Dc k).2.2.1 = some (t_Dc k) := by decide +kernel
theorem in_Dc : ∀ w ∈ u_ws R_Dc F_Dc 1, w ∈ gTbl := by
  intro w hw
  obtain ⟨k, hk, rfl⟩ := List.mem_map.mp hw
  have hk : k < 1 := List.mem_range.mp hk
  rcases (show k = 0 by omega) with rfl
  · exact gt_in (i := 136) (by decide +kernel) (by decide +kernel)
def R_En : String := "SpellDesk$Entry"
def F_En : u_T := fun k => match k with
  | 0 => ("SpellDesk$Entry", "word", "LSpellDesk$Letters;", true)
  | _ => ("SpellDesk$Entry", "flags", "I", false)
def t_En : Nat → FieldType := fun k => match k with
  | 0 => .object "SpellDesk$Letters"
  | _ => .int
theorem nm_En : ∀ a, a < 2 → ∀ b, b < 2 → a ≠ b → (F_En a).2.1 ≠ (F_En b).2.1 := by decide +kernel
theorem ty_En : ∀ k, k < 2 → parseFieldDescriptor (F_En k).2.2.1 = some (t_En k) := by decide +kernel
theorem in_En : ∀ w ∈ u_ws R_En F_En 2, w ∈ gTbl := by
  intro w hw
  obtain ⟨k, hk, rfl⟩ := List.mem_map.mp hw
  have hk : k < 2 := List.mem_range.mp hk
  rcases (show k = 0 ∨ k = 1 by omega) with rfl | rfl
  · exact gt_in (i := 449) (by decide +kernel) (by decide +kernel)
  · exact gt_in (i := 451) (by decide +kernel) (by decide +kernel)
def R_Lt : String := "SpellDesk$Letters"
def F_Lt : u_T := fun k => match k with
  | 0 => ("SpellDesk$Letters", "row", "[C", true)
  | _ => ("SpellDesk$Letters", "count", "I", false)
def t_Lt : Nat → FieldType := fun k => match k with
  | 0 => .array .char
  | _ => .int
theorem nm_Lt : ∀ a, a < 2 → ∀ b, b < 2 → a ≠ b → (F_Lt a).2.1 ≠ (F_Lt b).2.1 := by decide +kernel
theorem ty_Lt : ∀ k, k < 2 → parseFieldDescriptor (F_Lt k).2.2.1 = some (t_Lt k) := by decide +kernel
theorem in_Lt : ∀ w ∈ u_ws R_Lt F_Lt 2, w ∈ gTbl := by
  intro w hw
  obtain ⟨k, hk, rfl⟩ := List.mem_map.mp hw
  have hk : k < 2 := List.mem_range.mp hk
  rcases (show k = 0 ∨ k = 1 by omega) with rfl | rfl
  · exact gt_in (i := 51) (by decide +kernel) (by decide +kernel)
  · exact gt_in (i := 53) (by decide +kernel) (by decide +kernel)
def R_Ln : String := "SpellDesk$Line"
def F_Ln : u_T := fun k => match k with
  | 0 => ("SpellDesk$Line", "text", "LSpellDesk$Letters;", true)
  | 1 => ("SpellDesk$Line", "lineStart", "I", false)
  | 2 => ("SpellDesk$Line", "lineEnd", "I", false)
  | 3 => ("SpellDesk$Line", "start", "I", false)
  | 4 => ("SpellDesk$Line", "end", "I", false)
  | 5 => ("SpellDesk$Line", "wordFrom", "I", false)
  | _ => ("SpellDesk$Line", "wordLength", "I", false)
def t_Ln : Nat → FieldType := fun k => match k with
  | 0 => .object "SpellDesk$Letters"
  | 1 => .int
  | 2 => .int
  | 3 => .int
  | 4 => .int
  | 5 => .int
  | _ => .int
theorem nm_Ln : ∀ a, a < 7 → ∀ b, b < 7 → a ≠ b → (F_Ln a).2.1 ≠ (F_Ln b).2.1 := by decide +kernel
theorem ty_Ln : ∀ k, k < 7 → parseFieldDescriptor (F_Ln k).2.2.1 = some (t_Ln k) := by decide +kernel
theorem in_Ln : ∀ w ∈ u_ws R_Ln F_Ln 7, w ∈ gTbl := by
  intro w hw
  obtain ⟨k, hk, rfl⟩ := List.mem_map.mp hw
  have hk : k < 7 := List.mem_range.mp hk
  rcases (show k = 0 ∨ k = 1 ∨ k = 2 ∨ k = 3 ∨ k = 4 ∨ k = 5 ∨ k = 6 by omega) with rfl | rfl | rfl | rfl | rfl | rfl | rfl
  · exact gt_in (i := 70) (by decide +kernel) (by decide +kernel)
  · exact gt_in (i := 72) (by decide +kernel) (by decide +kernel)
  · exact gt_in (i := 74) (by decide +kernel) (by decide +kernel)
  · exact gt_in (i := 76) (by decide +kernel) (by decide +kernel)
  · exact gt_in (i := 78) (by decide +kernel) (by decide +kernel)
  · exact gt_in (i := 80) (by decide +kernel) (by decide +kernel)
  · exact gt_in (i := 82) (by decide +kernel) (by decide +kernel)
def R_Pr : String := "SpellDesk$Printer"
def F_Pr : u_T := fun k => match k with
  | 0 => ("SpellDesk$Printer", "printed", "LSpellDesk$Letters;", true)
  | 1 => ("SpellDesk$Printer", "lostCount", "I", false)
  | _ => ("SpellDesk$Printer", "items", "I", false)
def t_Pr : Nat → FieldType := fun k => match k with
  | 0 => .object "SpellDesk$Letters"
  | 1 => .int
  | _ => .int
theorem nm_Pr : ∀ a, a < 3 → ∀ b, b < 3 → a ≠ b → (F_Pr a).2.1 ≠ (F_Pr b).2.1 := by decide +kernel
theorem ty_Pr : ∀ k, k < 3 → parseFieldDescriptor (F_Pr k).2.2.1 = some (t_Pr k) := by decide +kernel
theorem in_Pr : ∀ w ∈ u_ws R_Pr F_Pr 3, w ∈ gTbl := by
  intro w hw
  obtain ⟨k, hk, rfl⟩ := List.mem_map.mp hw
  have hk : k < 3 := List.mem_range.mp hk
  rcases (show k = 0 ∨ k = 1 ∨ k = 2 by omega) with rfl | rfl | rfl
  · exact gt_in (i := 96) (by decide +kernel) (by decide +kernel)
  · exact gt_in (i := 98) (by decide +kernel) (by decide +kernel)
  · exact gt_in (i := 100) (by decide +kernel) (by decide +kernel)
def R_Ru : String := "SpellDesk$Rule"
def F_Ru : u_T := fun k => match k with
  | 0 => ("SpellDesk$Rule", "atFront", "Z", true)
  | 1 => ("SpellDesk$Rule", "flag", "I", true)
  | 2 => ("SpellDesk$Rule", "strip", "LSpellDesk$Letters;", true)
  | 3 => ("SpellDesk$Rule", "add", "LSpellDesk$Letters;", true)
  | _ => ("SpellDesk$Rule", "condition", "LSpellDesk$Letters;", true)
def t_Ru : Nat → FieldType := fun k => match k with
  | 0 => .boolean
  | 1 => .int
  | 2 => .object "SpellDesk$Letters"
  | 3 => .object "SpellDesk$Letters"
  | _ => .object "SpellDesk$Letters"
theorem nm_Ru : ∀ a, a < 5 → ∀ b, b < 5 → a ≠ b → (F_Ru a).2.1 ≠ (F_Ru b).2.1 := by decide +kernel
theorem ty_Ru : ∀ k, k < 5 → parseFieldDescriptor (F_Ru k).2.2.1 = some (t_Ru k) := by decide +kernel
theorem in_Ru : ∀ w ∈ u_ws R_Ru F_Ru 5, w ∈ gTbl := by
  intro w hw
  obtain ⟨k, hk, rfl⟩ := List.mem_map.mp hw
  have hk : k < 5 := List.mem_range.mp hk
  rcases (show k = 0 ∨ k = 1 ∨ k = 2 ∨ k = 3 ∨ k = 4 by omega) with rfl | rfl | rfl | rfl | rfl
  · exact gt_in (i := 162) (by decide +kernel) (by decide +kernel)
  · exact gt_in (i := 164) (by decide +kernel) (by decide +kernel)
  · exact gt_in (i := 166) (by decide +kernel) (by decide +kernel)
  · exact gt_in (i := 168) (by decide +kernel) (by decide +kernel)
  · exact gt_in (i := 170) (by decide +kernel) (by decide +kernel)
def R_Rs : String := "SpellDesk$RuleList"
def F_Rs : u_T := fun k => match k with
  | 0 => ("SpellDesk$RuleList", "atFront", "Z", true)
  | 1 => ("SpellDesk$RuleList", "list", "Ljava/util/ArrayList;", true)
  | _ => ("SpellDesk$RuleList", "none", "LSpellDesk$Rule;", true)
def t_Rs : Nat → FieldType := fun k => match k with
  | 0 => .boolean
  | 1 => .object "java/util/ArrayList"
  | _ => .object "SpellDesk$Rule"
theorem nm_Rs : ∀ a, a < 3 → ∀ b, b < 3 → a ≠ b → (F_Rs a).2.1 ≠ (F_Rs b).2.1 := by decide +kernel
theorem ty_Rs : ∀ k, k < 3 → parseFieldDescriptor (F_Rs k).2.2.1 = some (t_Rs k) := by decide +kernel
theorem in_Rs : ∀ w ∈ u_ws R_Rs F_Rs 3, w ∈ gTbl := by
  intro w hw
  obtain ⟨k, hk, rfl⟩ := List.mem_map.mp hw
  have hk : k < 3 := List.mem_range.mp hk
  rcases (show k = 0 ∨ k = 1 ∨ k = 2 by omega) with rfl | rfl | rfl
  · exact gt_in (i := 176) (by decide +kernel) (by decide +kernel)
  · exact gt_in (i := 178) (by decide +kernel) (by decide +kernel)
  · exact gt_in (i := 180) (by decide +kernel) (by decide +kernel)
def R_Sp : String := "SpellDesk$Speller"
def F_Sp : u_T := fun k => match k with
  | 0 => ("SpellDesk$Speller", "dictionary", "LSpellDesk$Dictionary;", true)
  | 1 => ("SpellDesk$Speller", "prefixes", "LSpellDesk$RuleList;", true)
  | 2 => ("SpellDesk$Speller", "suffixes", "LSpellDesk$RuleList;", true)
  | 3 => ("SpellDesk$Speller", "base", "LSpellDesk$Letters;", true)
  | 4 => ("SpellDesk$Speller", "ways", "[I", true)
  | 5 => ("SpellDesk$Speller", "formLetters", "LSpellDesk$Letters;", true)
  | 6 => ("SpellDesk$Speller", "forms", "LSpellDesk$WordList;", true)
  | _ => ("SpellDesk$Speller", "wayCount", "I", false)
def t_Sp : Nat → FieldType := fun k => match k with
  | 0 => .object "SpellDesk$Dictionary"
  | 1 => .object "SpellDesk$RuleList"
  | 2 => .object "SpellDesk$RuleList"
  | 3 => .object "SpellDesk$Letters"
  | 4 => .array .int
  | 5 => .object "SpellDesk$Letters"
  | 6 => .object "SpellDesk$WordList"
  | _ => .int
theorem nm_Sp : ∀ a, a < 8 → ∀ b, b < 8 → a ≠ b → (F_Sp a).2.1 ≠ (F_Sp b).2.1 := by decide +kernel
theorem ty_Sp : ∀ k, k < 8 → parseFieldDescriptor (F_Sp k).2.2.1 = some (t_Sp k) := by decide +kernel
theorem in_Sp : ∀ w ∈ u_ws R_Sp F_Sp 8, w ∈ gTbl := by
  intro w hw
  obtain ⟨k, hk, rfl⟩ := List.mem_map.mp hw
  have hk : k < 8 := List.mem_range.mp hk
  rcases (show k = 0 ∨ k = 1 ∨ k = 2 ∨ k = 3 ∨ k = 4 ∨ k = 5 ∨ k = 6 ∨ k = 7 by omega) with rfl | rfl | rfl | rfl | rfl | rfl | rfl | rfl
  · exact gt_in (i := 220) (by decide +kernel) (by decide +kernel)
  · exact gt_in (i := 222) (by decide +kernel) (by decide +kernel)
  · exact gt_in (i := 224) (by decide +kernel) (by decide +kernel)
  · exact gt_in (i := 226) (by decide +kernel) (by decide +kernel)
  · exact gt_in (i := 228) (by decide +kernel) (by decide +kernel)
  · exact gt_in (i := 230) (by decide +kernel) (by decide +kernel)
  · exact gt_in (i := 232) (by decide +kernel) (by decide +kernel)
  · exact gt_in (i := 234) (by decide +kernel) (by decide +kernel)
def R_Wl : String := "SpellDesk$WordList"
def F_Wl : u_T := fun k => match k with
  | 0 => ("SpellDesk$WordList", "row", "LSpellDesk$Letters;", true)
  | 1 => ("SpellDesk$WordList", "starts", "[I", true)
  | 2 => ("SpellDesk$WordList", "lengths", "[I", true)
  | _ => ("SpellDesk$WordList", "count", "I", false)
def t_Wl : Nat → FieldType := fun k => match k with
  | 0 => .object "SpellDesk$Letters"
  | 1 => .array .int
  | 2 => .array .int
  | _ => .int
theorem nm_Wl : ∀ a, a < 4 → ∀ b, b < 4 → a ≠ b → (F_Wl a).2.1 ≠ (F_Wl b).2.1 := by decide +kernel
theorem ty_Wl : ∀ k, k < 4 → parseFieldDescriptor (F_Wl k).2.2.1 = some (t_Wl k) := by decide +kernel
theorem in_Wl : ∀ w ∈ u_ws R_Wl F_Wl 4, w ∈ gTbl := by
  intro w hw
  obtain ⟨k, hk, rfl⟩ := List.mem_map.mp hw
  have hk : k < 4 := List.mem_range.mp hk
  rcases (show k = 0 ∨ k = 1 ∨ k = 2 ∨ k = 3 by omega) with rfl | rfl | rfl | rfl
  · exact gt_in (i := 202) (by decide +kernel) (by decide +kernel)
  · exact gt_in (i := 204) (by decide +kernel) (by decide +kernel)
  · exact gt_in (i := 206) (by decide +kernel) (by decide +kernel)
  · exact gt_in (i := 208) (by decide +kernel) (by decide +kernel)
def R_Md : String := "SpellDeskModel"
def F_Md : u_T := fun k => match k with
  | 0 => ("SpellDeskModel", "code", "I", false)
  | 1 => ("SpellDeskModel", "typed", "I", false)
  | 2 => ("SpellDeskModel", "text", "[I", true)
  | 3 => ("SpellDeskModel", "size", "I", false)
  | 4 => ("SpellDeskModel", "output", "[I", true)
  | 5 => ("SpellDeskModel", "lost", "I", false)
  | 6 => ("SpellDeskModel", "entries", "I", false)
  | 7 => ("SpellDeskModel", "length", "[I", true)
  | 8 => ("SpellDeskModel", "flags", "[I", true)
  | 9 => ("SpellDeskModel", "letters", "[I", true)
  | 10 => ("SpellDeskModel", "count", "[I", true)
  | 11 => ("SpellDeskModel", "flag", "[I", true)
  | 12 => ("SpellDeskModel", "partLength", "[I", true)
  | 13 => ("SpellDeskModel", "part", "[I", true)
  | 14 => ("SpellDeskModel", "from", "I", false)
  | 15 => ("SpellDeskModel", "to", "I", false)
  | 16 => ("SpellDeskModel", "at", "I", false)
  | 17 => ("SpellDeskModel", "first", "I", false)
  | 18 => ("SpellDeskModel", "end", "I", false)
  | 19 => ("SpellDeskModel", "wrong", "I", false)
  | 20 => ("SpellDeskModel", "made", "I", false)
  | 21 => ("SpellDeskModel", "form", "[I", true)
  | 22 => ("SpellDeskModel", "words", "I", false)
  | 23 => ("SpellDeskModel", "wordFrom", "[I", true)
  | 24 => ("SpellDeskModel", "wordLength", "[I", true)
  | _ => ("SpellDeskModel", "forms", "[I", true)
def t_Md : Nat → FieldType := fun k => match k with
  | 0 => .int
  | 1 => .int
  | 2 => .array .int
  | 3 => .int
  | 4 => .array .int
  | 5 => .int
  | 6 => .int
  | 7 => .array .int
  | 8 => .array .int
  | 9 => .array .int
  | 10 => .array .int
  | 11 => .array .int
  | 12 => .array .int
  | 13 => .array .int
  | 14 => .int
  | 15 => .int
  | 16 => .int
  | 17 => .int
  | 18 => .int
  | 19 => .int
  | 20 => .int
  | 21 => .array .int
  | 22 => .int
  | 23 => .array .int
  | 24 => .array .int
  | _ => .array .int
theorem nm_Md : ∀ a, a < 26 → ∀ b, b < 26 → a ≠ b → (F_Md a).2.1 ≠ (F_Md b).2.1 := by decide +kernel
theorem ty_Md : ∀ k, k < 26 → parseFieldDescriptor (F_Md k).2.2.1 = some (t_Md k) := by decide +kernel
theorem in_Md : ∀ w ∈ u_ws R_Md F_Md 26, w ∈ gTbl := by
  intro w hw
  obtain ⟨k, hk, rfl⟩ := List.mem_map.mp hw
  have hk : k < 26 := List.mem_range.mp hk
  rcases (show k = 0 ∨ k = 1 ∨ k = 2 ∨ k = 3 ∨ k = 4 ∨ k = 5 ∨ k = 6 ∨ k = 7 ∨ k = 8 ∨ k = 9 ∨ k = 10 ∨ k = 11 ∨ k = 12 ∨ k = 13 ∨ k = 14 ∨ k = 15 ∨ k = 16 ∨ k = 17 ∨ k = 18 ∨ k = 19 ∨ k = 20 ∨ k = 21 ∨ k = 22 ∨ k = 23 ∨ k = 24 ∨ k = 25 by omega) with rfl | rfl | rfl | rfl | rfl | rfl | rfl | rfl | rfl | rfl | rfl | rfl | rfl | rfl | rfl | rfl | rfl | rfl | rfl | rfl | rfl | rfl | rfl | rfl | rfl | rfl
  · exact gt_in (i := 1179) (by decide +kernel) (by decide +kernel)
  · exact gt_in (i := 1181) (by decide +kernel) (by decide +kernel)
  · exact gt_in (i := 1183) (by decide +kernel) (by decide +kernel)
  · exact gt_in (i := 1185) (by decide +kernel) (by decide +kernel)
  · exact gt_in (i := 1187) (by decide +kernel) (by decide +kernel)
  · exact gt_in (i := 1189) (by decide +kernel) (by decide +kernel)
  · exact gt_in (i := 1191) (by decide +kernel) (by decide +kernel)
  · exact gt_in (i := 1193) (by decide +kernel) (by decide +kernel)
  · exact gt_in (i := 1195) (by decide +kernel) (by decide +kernel)
  · exact gt_in (i := 1197) (by decide +kernel) (by decide +kernel)
  · exact gt_in (i := 1199) (by decide +kernel) (by decide +kernel)
  · exact gt_in (i := 1201) (by decide +kernel) (by decide +kernel)
  · exact gt_in (i := 1203) (by decide +kernel) (by decide +kernel)
  · exact gt_in (i := 1205) (by decide +kernel) (by decide +kernel)
  · exact gt_in (i := 1207) (by decide +kernel) (by decide +kernel)
  · exact gt_in (i := 1209) (by decide +kernel) (by decide +kernel)
  · exact gt_in (i := 1211) (by decide +kernel) (by decide +kernel)
  · exact gt_in (i := 1213) (by decide +kernel) (by decide +kernel)
  · exact gt_in (i := 1215) (by decide +kernel) (by decide +kernel)
  · exact gt_in (i := 1217) (by decide +kernel) (by decide +kernel)
  · exact gt_in (i := 1219) (by decide +kernel) (by decide +kernel)
  · exact gt_in (i := 1221) (by decide +kernel) (by decide +kernel)
  · exact gt_in (i := 1223) (by decide +kernel) (by decide +kernel)
  · exact gt_in (i := 1225) (by decide +kernel) (by decide +kernel)
  · exact gt_in (i := 1227) (by decide +kernel) (by decide +kernel)
  · exact gt_in (i := 1229) (by decide +kernel) (by decide +kernel)
def R_AL : String := "java/util/ArrayList"
def F_AL : u_T := fun k => match k with
  | 0 => ("java/util/AbstractList", "modCount", "I", false)
  | 1 => ("java/util/ArrayList", "elementData", "[Ljava/lang/Object;", false)
  | _ => ("java/util/ArrayList", "size", "I", false)
def t_AL : Nat → FieldType := fun k => match k with
  | 0 => .int
  | 1 => .array (.object "java/lang/Object")
  | _ => .int
theorem nm_AL : ∀ a, a < 3 → ∀ b, b < 3 → a ≠ b → (F_AL a).2.1 ≠ (F_AL b).2.1 := by decide +kernel
theorem ty_AL : ∀ k, k < 3 → parseFieldDescriptor (F_AL k).2.2.1 = some (t_AL k) := by decide +kernel
theorem in_AL : ∀ w ∈ u_ws R_AL F_AL 3, w ∈ gTbl := by
  intro w hw
  obtain ⟨k, hk, rfl⟩ := List.mem_map.mp hw
  have hk : k < 3 := List.mem_range.mp hk
  rcases (show k = 0 ∨ k = 1 ∨ k = 2 by omega) with rfl | rfl | rfl
  · exact gt_in (i := 132) (by decide +kernel) (by decide +kernel)
  · exact gt_in (i := 128) (by decide +kernel) (by decide +kernel)
  · exact gt_in (i := 130) (by decide +kernel) (by decide +kernel)
def R_ISE : String := "java/lang/IllegalStateException"
def F_ISE : u_T := fun k => match k with
  | 0 => ("java/lang/Throwable", "cause", "Ljava/lang/Throwable;", false)
  | 1 => ("java/lang/Throwable", "stackTrace", "[Ljava/lang/StackTraceElement;", false)
  | 2 => ("java/lang/Throwable", "suppressedExceptions", "Ljava/util/List;", false)
  | 3 => ("java/lang/Throwable", "detailMessage", "Ljava/lang/String;", false)
  | 4 => ("java/lang/Throwable", "backtrace", "Ljava/lang/Object;", false)
  | _ => ("java/lang/Throwable", "depth", "I", false)
def t_ISE : Nat → FieldType := fun k => match k with
  | 0 => .object "java/lang/Throwable"
  | 1 => .array (.object "java/lang/StackTraceElement")
  | 2 => .object "java/util/List"
  | 3 => .object "java/lang/String"
  | 4 => .object "java/lang/Object"
  | _ => .int
theorem nm_ISE : ∀ a, a < 6 → ∀ b, b < 6 → a ≠ b → (F_ISE a).2.1 ≠ (F_ISE b).2.1 := by decide +kernel
theorem ty_ISE : ∀ k, k < 6 → parseFieldDescriptor (F_ISE k).2.2.1 = some (t_ISE k) := by decide +kernel
theorem in_ISE : ∀ w ∈ u_ws R_ISE F_ISE 6, w ∈ gTbl := by
  intro w hw
  obtain ⟨k, hk, rfl⟩ := List.mem_map.mp hw
  have hk : k < 6 := List.mem_range.mp hk
  rcases (show k = 0 ∨ k = 1 ∨ k = 2 ∨ k = 3 ∨ k = 4 ∨ k = 5 by omega) with rfl | rfl | rfl | rfl | rfl | rfl
  · exact gt_in (i := 1115) (by decide +kernel) (by decide +kernel)
  · exact gt_in (i := 1116) (by decide +kernel) (by decide +kernel)
  · exact gt_in (i := 1117) (by decide +kernel) (by decide +kernel)
  · exact gt_in (i := 1118) (by decide +kernel) (by decide +kernel)
  · exact gt_in (i := 1119) (by decide +kernel) (by decide +kernel)
  · exact gt_in (i := 1125) (by decide +kernel) (by decide +kernel)
def R_IOE : String := "java/lang/IndexOutOfBoundsException"
def F_IOE : u_T := fun k => match k with
  | 0 => ("java/lang/Throwable", "cause", "Ljava/lang/Throwable;", false)
  | 1 => ("java/lang/Throwable", "stackTrace", "[Ljava/lang/StackTraceElement;", false)
  | 2 => ("java/lang/Throwable", "suppressedExceptions", "Ljava/util/List;", false)
  | 3 => ("java/lang/Throwable", "detailMessage", "Ljava/lang/String;", false)
  | 4 => ("java/lang/Throwable", "backtrace", "Ljava/lang/Object;", false)
  | _ => ("java/lang/Throwable", "depth", "I", false)
def t_IOE : Nat → FieldType := fun k => match k with
  | 0 => .object "java/lang/Throwable"
  | 1 => .array (.object "java/lang/StackTraceElement")
  | 2 => .object "java/util/List"
  | 3 => .object "java/lang/String"
  | 4 => .object "java/lang/Object"
  | _ => .int
theorem nm_IOE : ∀ a, a < 6 → ∀ b, b < 6 → a ≠ b → (F_IOE a).2.1 ≠ (F_IOE b).2.1 := by decide +kernel
theorem ty_IOE : ∀ k, k < 6 → parseFieldDescriptor (F_IOE k).2.2.1 = some (t_IOE k) := by decide +kernel
theorem in_IOE : ∀ w ∈ u_ws R_IOE F_IOE 6, w ∈ gTbl := by
  intro w hw
  obtain ⟨k, hk, rfl⟩ := List.mem_map.mp hw
  have hk : k < 6 := List.mem_range.mp hk
  rcases (show k = 0 ∨ k = 1 ∨ k = 2 ∨ k = 3 ∨ k = 4 ∨ k = 5 by omega) with rfl | rfl | rfl | rfl | rfl | rfl
  · exact gt_in (i := 478) (by decide +kernel) (by decide +kernel)
  · exact gt_in (i := 480) (by decide +kernel) (by decide +kernel)
  · exact gt_in (i := 482) (by decide +kernel) (by decide +kernel)
  · exact gt_in (i := 484) (by decide +kernel) (by decide +kernel)
  · exact gt_in (i := 486) (by decide +kernel) (by decide +kernel)
  · exact gt_in (i := 745) (by decide +kernel) (by decide +kernel)
theorem wi_SD : Cond.instantiable R_SD 8 ∈ gTbl := gt_in (i := 33) (by decide +kernel) rfl
theorem wn_SD : Cond.initialized R_SD ∈ gTbl := gt_in (i := 1) (by decide +kernel) rfl
theorem df_SD : ∀ j, j < 8 → defaultValue (t_SD j) = vp_V [.null, .null, .null, .null, .null, .null, .null, .null] j := fun j hj => by rcases (show j = 0 ∨ j = 1 ∨ j = 2 ∨ j = 3 ∨ j = 4 ∨ j = 5 ∨ j = 6 ∨ j = 7 by omega) with rfl | rfl | rfl | rfl | rfl | rfl | rfl | rfl <;> rfl
theorem wi_Dc : Cond.instantiable R_Dc 1 ∈ gTbl := gt_in (i := 104) (by decide +kernel) rfl
theorem wn_Dc : Cond.initialized R_Dc ∈ gTbl := gt_in (i := 6) (by decide +kernel) rfl
theorem df_Dc : ∀ j, j < 1 → defaultValue (t_Dc j) = vp_V [.null] j := fun j hj => by rcases (show j = 0 by omega) with rfl <;> rfl
theorem wi_En : Cond.instantiable R_En 2 ∈ gTbl := gt_in (i := 428) (by decide +kernel) rfl
theorem wn_En : Cond.initialized R_En ∈ gTbl := gt_in (i := 24) (by decide +kernel) rfl
theorem df_En : ∀ j, j < 2 → defaultValue (t_En j) = vp_V [.null, .int 0] j := fun j hj => by rcases (show j = 0 ∨ j = 1 by omega) with rfl | rfl <;> rfl
theorem wi_Lt : Cond.instantiable R_Lt 2 ∈ gTbl := gt_in (i := 41) (by decide +kernel) rfl
theorem wn_Lt : Cond.initialized R_Lt ∈ gTbl := gt_in (i := 2) (by decide +kernel) rfl
theorem df_Lt : ∀ j, j < 2 → defaultValue (t_Lt j) = vp_V [.null, .int 0] j := fun j hj => by rcases (show j = 0 ∨ j = 1 by omega) with rfl | rfl <;> rfl
theorem wi_Ln : Cond.instantiable R_Ln 7 ∈ gTbl := gt_in (i := 58) (by decide +kernel) rfl
theorem wn_Ln : Cond.initialized R_Ln ∈ gTbl := gt_in (i := 4) (by decide +kernel) rfl
theorem df_Ln : ∀ j, j < 7 → defaultValue (t_Ln j) = vp_V [.null, .int 0, .int 0, .int 0, .int 0, .int 0, .int 0] j := fun j hj => by rcases (show j = 0 ∨ j = 1 ∨ j = 2 ∨ j = 3 ∨ j = 4 ∨ j = 5 ∨ j = 6 by omega) with rfl | rfl | rfl | rfl | rfl | rfl | rfl <;> rfl
theorem wi_Pr : Cond.instantiable R_Pr 3 ∈ gTbl := gt_in (i := 86) (by decide +kernel) rfl
theorem wn_Pr : Cond.initialized R_Pr ∈ gTbl := gt_in (i := 5) (by decide +kernel) rfl
theorem df_Pr : ∀ j, j < 3 → defaultValue (t_Pr j) = vp_V [.null, .int 0, .int 0] j := fun j hj => by rcases (show j = 0 ∨ j = 1 ∨ j = 2 by omega) with rfl | rfl | rfl <;> rfl
theorem wi_Ru : Cond.instantiable R_Ru 5 ∈ gTbl := gt_in (i := 150) (by decide +kernel) rfl
theorem wn_Ru : Cond.initialized R_Ru ∈ gTbl := gt_in (i := 11) (by decide +kernel) rfl
theorem df_Ru : ∀ j, j < 5 → defaultValue (t_Ru j) = vp_V [.int 0, .int 0, .null, .null, .null] j := fun j hj => by rcases (show j = 0 ∨ j = 1 ∨ j = 2 ∨ j = 3 ∨ j = 4 by omega) with rfl | rfl | rfl | rfl | rfl <;> rfl
theorem wi_Rs : Cond.instantiable R_Rs 3 ∈ gTbl := gt_in (i := 140) (by decide +kernel) rfl
theorem wn_Rs : Cond.initialized R_Rs ∈ gTbl := gt_in (i := 10) (by decide +kernel) rfl
theorem df_Rs : ∀ j, j < 3 → defaultValue (t_Rs j) = vp_V [.int 0, .null, .null] j := fun j hj => by rcases (show j = 0 ∨ j = 1 ∨ j = 2 by omega) with rfl | rfl | rfl <;> rfl
theorem wi_Sp : Cond.instantiable R_Sp 8 ∈ gTbl := gt_in (i := 184) (by decide +kernel) rfl
theorem wn_Sp : Cond.initialized R_Sp ∈ gTbl := gt_in (i := 12) (by decide +kernel) rfl
theorem df_Sp : ∀ j, j < 8 → defaultValue (t_Sp j) = vp_V [.null, .null, .null, .null, .null, .null, .null, .int 0] j := fun j hj => by rcases (show j = 0 ∨ j = 1 ∨ j = 2 ∨ j = 3 ∨ j = 4 ∨ j = 5 ∨ j = 6 ∨ j = 7 by omega) with rfl | rfl | rfl | rfl | rfl | rfl | rfl | rfl <;> rfl
theorem wi_Wl : Cond.instantiable R_Wl 4 ∈ gTbl := gt_in (i := 192) (by decide +kernel) rfl
theorem wn_Wl : Cond.initialized R_Wl ∈ gTbl := gt_in (i := 13) (by decide +kernel) rfl
theorem df_Wl : ∀ j, j < 4 → defaultValue (t_Wl j) = vp_V [.null, .null, .null, .int 0] j := fun j hj => by rcases (show j = 0 ∨ j = 1 ∨ j = 2 ∨ j = 3 by omega) with rfl | rfl | rfl | rfl <;> rfl
theorem wi_Md : Cond.instantiable R_Md 26 ∈ gTbl := gt_in (i := 1148) (by decide +kernel) rfl
theorem wn_Md : Cond.initialized R_Md ∈ gTbl := gt_in (i := 14) (by decide +kernel) rfl
theorem df_Md : ∀ j, j < 26 → defaultValue (t_Md j) = vp_V [.int 0, .int 0, .null, .int 0, .null, .int 0, .int 0, .null, .null, .null, .null, .null, .null, .null, .int 0, .int 0, .int 0, .int 0, .int 0, .int 0, .int 0, .null, .int 0, .null, .null, .null] j := fun j hj => by rcases (show j = 0 ∨ j = 1 ∨ j = 2 ∨ j = 3 ∨ j = 4 ∨ j = 5 ∨ j = 6 ∨ j = 7 ∨ j = 8 ∨ j = 9 ∨ j = 10 ∨ j = 11 ∨ j = 12 ∨ j = 13 ∨ j = 14 ∨ j = 15 ∨ j = 16 ∨ j = 17 ∨ j = 18 ∨ j = 19 ∨ j = 20 ∨ j = 21 ∨ j = 22 ∨ j = 23 ∨ j = 24 ∨ j = 25 by omega) with rfl | rfl | rfl | rfl | rfl | rfl | rfl | rfl | rfl | rfl | rfl | rfl | rfl | rfl | rfl | rfl | rfl | rfl | rfl | rfl | rfl | rfl | rfl | rfl | rfl | rfl <;> rfl
theorem wi_AL : Cond.instantiable R_AL 3 ∈ gTbl := gt_in (i := 110) (by decide +kernel) rfl
theorem wn_AL : Cond.initialized R_AL ∈ gTbl := gt_in (i := 9) (by decide +kernel) rfl
theorem df_AL : ∀ j, j < 3 → defaultValue (t_AL j) = vp_V [.int 0, .null, .int 0] j := fun j hj => by rcases (show j = 0 ∨ j = 1 ∨ j = 2 by omega) with rfl | rfl | rfl <;> rfl
theorem wi_ISE : Cond.instantiable R_ISE 6 ∈ gTbl := gt_in (i := 1112) (by decide +kernel) rfl
theorem wn_ISE : Cond.initialized R_ISE ∈ gTbl := gt_in (i := 18) (by decide +kernel) rfl
theorem df_ISE : ∀ j, j < 6 → defaultValue (t_ISE j) = vp_V [.null, .null, .null, .null, .null, .int 0] j := fun j hj => by rcases (show j = 0 ∨ j = 1 ∨ j = 2 ∨ j = 3 ∨ j = 4 ∨ j = 5 by omega) with rfl | rfl | rfl | rfl | rfl | rfl <;> rfl
theorem wi_IOE : Cond.instantiable R_IOE 6 ∈ gTbl := gt_in (i := 468) (by decide +kernel) rfl
theorem wn_IOE : Cond.initialized R_IOE ∈ gTbl := gt_in (i := 25) (by decide +kernel) rfl
theorem df_IOE : ∀ j, j < 6 → defaultValue (t_IOE j) = vp_V [.null, .null, .null, .null, .null, .int 0] j := fun j hj => by rcases (show j = 0 ∨ j = 1 ∨ j = 2 ∨ j = 3 ∨ j = 4 ∨ j = 5 by omega) with rfl | rfl | rfl | rfl | rfl | rfl <;> rfl
abbrev vwCl : List vw_C := [(R_SD, F_SD, 8), (R_Dc, F_Dc, 1), (R_En, F_En, 2), (R_Lt, F_Lt, 2), (R_Ln, F_Ln, 7), (R_Pr, F_Pr, 3), (R_Ru, F_Ru, 5), (R_Rs, F_Rs, 3), (R_Sp, F_Sp, 8), (R_Wl, F_Wl, 4), (R_Md, F_Md, 26), (R_AL, F_AL, 3), (R_ISE, F_ISE, 6), (R_IOE, F_IOE, 6)]
/-! the launch's own numbers: classes and slots; array classes (0 char, 1 int, 2 Object, 3 byte, 4 long); String constants; the empty list's array -/
abbrev GG : Type := va_G × (Nat → ClassId) × (Nat → Nat) × (Nat → Nat) × Nat × Nat
def gh_tys (G : GG) : List (ClassId × FieldType) := [(G.2.1 0, .char), (G.2.1 1, .int), (G.2.1 2, .object "java/lang/Object"), (G.2.1 3, .byte), (G.2.1 4, .long)]
theorem w_oi : Cond.instanceMethod objectInit ∈ gTbl := gt_in (i := 38) (by decide +kernel) rfl
theorem w_oc : Cond.code objectInit ⟨#[0xb1]⟩ 1 none ∈ gTbl := gt_in (i := 39) (by decide +kernel) rfl
theorem w_ac : Cond.arrayClass .char ∈ gTbl := gt_in (i := 56) (by decide +kernel) rfl
theorem w_ai : Cond.arrayClass .int ∈ gTbl := gt_in (i := 211) (by decide +kernel) rfl
theorem w_al : Cond.arrayClass .long ∈ gTbl := gt_in (i := 1408) (by decide +kernel) rfl
theorem w_ab : Cond.arrayClass .byte ∈ gTbl := gt_in (i := 454) (by decide +kernel) rfl
def st_N : Nat := 21
def st_len : List Nat := [3, 5, 4, 2, 4, 4, 6, 1, 6, 5, 4, 3, 1, 1, 2, 5, 5, 5, 2, 45, 32]
def st_byt : List (List Int32) := [[97, 100, 100], [97, 103, 97, 105, 110], [102, 117, 108, 108], [111, 107], [100, 114, 111, 112], [110, 111, 110, 101], [112, 114, 101, 102, 105, 120], [48], [115, 117, 102, 102, 105, 120], [99, 104, 101, 99, 107], [108, 111, 111, 107], [119, 104, 121], [112], [43], [43, 115], [102, 111, 114, 109, 115], [99, 111, 117, 110, 116], [99, 108, 101, 97, 114], [63, 32], [116, 104, 101, 32, 116, 101, 120, 116, 32, 119, 111, 117, 108, 100, 32, 104, 97, 118, 101, 32, 109, 111, 114, 101, 32, 116, 104, 97, 110, 32, 50, 48, 52, 56, 32, 99, 104, 97, 114, 97, 99, 116, 101, 114, 115], [116, 104, 101, 32, 111, 117, 116, 112, 117, 116, 32, 104, 97, 115, 32, 110, 111, 32, 115, 117, 99, 104, 32, 99, 104, 97, 114, 97, 99, 116, 101, 114]]
def st_txt : List (List Nat) := [[97, 100, 100], [97, 103, 97, 105, 110], [102, 117, 108, 108], [111, 107], [100, 114, 111, 112], [110, 111, 110, 101], [112, 114, 101, 102, 105, 120], [48], [115, 117, 102, 102, 105, 120], [99, 104, 101, 99, 107], [108, 111, 111, 107], [119, 104, 121], [112], [43], [43, 115], [102, 111, 114, 109, 115], [99, 111, 117, 110, 116], [99, 108, 101, 97, 114], [63, 32], [116, 104, 101, 32, 116, 101, 120, 116, 32, 119, 111, 117, 108, 100, 32, 104, 97, 118, 101, 32, 109, 111, 114, 101, 32, 116, 104, 97, 110, 32, 50, 48, 52, 56, 32, 99, 104, 97, 114, 97, 99, 116, 101, 114, 115], [116, 104, 101, 32, 111, 117, 116, 112, 117, 116, 32, 104, 97, 115, 32, 110, 111, 32, 115, 117, 99, 104, 32, 99, 104, 97, 114, 97, 99, 116, 101, 114]]
def st_own : List (String × Nat × String) := [("SpellDesk", 124, "add"), ("SpellDesk", 213, "again"), ("SpellDesk", 215, "full"), ("SpellDesk", 226, "ok"), ("SpellDesk", 133, "drop"), ("SpellDesk", 238, "none"), ("SpellDesk", 138, "prefix"), ("SpellDesk$Line", 71, "0"), ("SpellDesk", 144, "suffix"), ("SpellDesk", 146, "check"), ("SpellDesk", 151, "look"), ("SpellDesk", 156, "why"), ("SpellDesk", 323, "p"), ("SpellDesk", 325, "+"), ("SpellDesk", 330, "+s"), ("SpellDesk", 161, "forms"), ("SpellDesk", 166, "count"), ("SpellDesk", 170, "clear"), ("SpellDesk", 174, "? "), ("SpellDesk", 81, "the text would have more than 2048 characters"), ("SpellDesk", 103, "the output has no such character")]
def gh_X (G : GG) (U : State) : Prop := va_AO "java/lang/Object" U ∧ va_Nw (.castable "SpellDesk$Entry" "java/lang/Object") U ∧ va_Nw (.castable "SpellDesk$Rule" "java/lang/Object") U ∧ va_Nw (.castable "java/lang/IllegalStateException" "java/lang/IllegalStateException") U ∧ va_Nw (.castable "java/lang/IndexOutOfBoundsException" "java/lang/IndexOutOfBoundsException") U ∧ va_Dc U ∧ va_Mi "[Ljava/lang/Object;" G.2.2.2.2.2 U
/-- what holds of the start and stays: the tables; the String constants; ArrayList's empty array -/
def gh_S (G : GG) (A : Nat → Prop) (U : State) (H : Heap) : Prop := vk_S st_N st_len st_byt G.2.2.1 G.2.2.2.1 A U H ∧ va_Z "java/util/ArrayList" "DEFAULTCAPACITY_EMPTY_ELEMENTDATA" "[Ljava/lang/Object;" (.ref G.2.2.2.2.1) A U H ∧ va_T (.object "java/lang/Object") G.2.2.2.2.1 0 (fun _ => .null) A U H ∧ va_Z "java/lang/String" "COMPACT_STRINGS" "Z" (.int 1) A U H ∧ va_Zq "jdk/internal/util/Preconditions" "SIOOBE_FORMATTER" "Ljava/util/function/BiFunction;" A U H ∧ va_Zq "java/lang/Throwable" "UNASSIGNED_STACK" "[Ljava/lang/StackTraceElement;" A U H ∧ va_Zq "java/lang/Throwable" "SUPPRESSED_SENTINEL" "Ljava/util/List;" A U H ∧ gh_X G U
def gh_C (G : GG) (A : Nat → Prop) (U : State) (H : Heap) : Prop := va_K G.1 vwCl (gh_tys G) U ∧ gh_S G A U H ∧ ∀ i : Nat, i < st_N → ∀ q, st_own[i]? = some q → vk_R q.1 q.2.1 q.2.2 (G.2.2.1 i) U
section GHC
variable {G : GG} {A B : Nat → Prop} {u U : State} {H H1 : Heap}
theorem gh_X.warm (hW : u.WarmedH U.vm) (h : gh_X G u) : gh_X G U := ⟨h.1.moved hW.alike, va_Nw.warmC hW h.2.1, va_Nw.warmC hW h.2.2.1, va_Nw.warmC hW h.2.2.2.1, va_Nw.warmC hW h.2.2.2.2.1, h.2.2.2.2.2.1.moved hW.alike, h.2.2.2.2.2.2.moved hW.alike⟩
theorem gh_X.same (hv : U.vm = u.vm) (h : gh_X G u) : gh_X G U := by
  have ha : u.vm.Alike U.vm := by rw [hv]; exact Vm.Alike.refl _
  exact ⟨h.1.moved ha, va_Nw.same rfl hv.symm h.2.1, va_Nw.same rfl hv.symm h.2.2.1, va_Nw.same rfl hv.symm h.2.2.2.1, va_Nw.same rfl hv.symm h.2.2.2.2.1, h.2.2.2.2.2.1.moved ha, h.2.2.2.2.2.2.moved ha⟩
theorem gh_C.warm (hW : u.WarmedH U.vm) (h : gh_C G A u H) : gh_C G A U H := by
  obtain ⟨h1, ⟨s1, s2, s3, s4, s5, s6, s7, s8⟩, h3⟩ := h
  have ha := hW.alike
  exact ⟨va_K.moved ha h1, ⟨s1.moved ha, s2.moved ha, s3.moved ha, s4.moved ha, s5.moved ha, s6.moved ha, s7.moved ha, s8.warm hW⟩, fun i hi q hq => (h3 i hi q hq).warm hW⟩
theorem gh_C.same (hv : U.vm = u.vm) (h : gh_C G A u H) : gh_C G A U H := by
  have ha : u.vm.Alike U.vm := by rw [hv]; exact Vm.Alike.refl _
  obtain ⟨h1, ⟨s1, s2, s3, s4, s5, s6, s7, s8⟩, h3⟩ := h
  exact ⟨va_K.moved ha h1, ⟨s1.moved ha, s2.moved ha, s3.moved ha, s4.moved ha, s5.moved ha, s6.moved ha, s7.moved ha, s8.same hv⟩, fun i hi q hq => (h3 i hi q hq).same hv⟩
theorem gh_C.kept (hq : ∀ a : Nat, a < H.size → ¬ A a → H1[a]? = H[a]?) (h : gh_C G A U H) : gh_C G A U H1 := by
  obtain ⟨h1, ⟨s1, s2, s3, s4, s5, s6, s7, s8⟩, h3⟩ := h
  exact ⟨h1, ⟨s1.kept hq, s2.kept hq, s3.kept hq, s4.kept hq, s5.kept hq, s6.kept hq, s7.kept hq, s8⟩, h3⟩
theorem gh_C.narrow (hAB : ∀ q, B q → A q) (h : gh_C G A U H) : gh_C G B U H := by
  obtain ⟨h1, ⟨s1, s2, s3, s4, s5, s6, s7, s8⟩, h3⟩ := h
  exact ⟨h1, ⟨s1.narrow hAB, s2.narrow hAB, s3.narrow hAB, s4.narrow hAB, s5.narrow hAB, s6.narrow hAB, s7.narrow hAB, s8⟩, h3⟩
end GHC
end
section
/-! THE GHOST LAYER: a world is a function from addresses to (tag, cell); each row of the machine is said over it -/
abbrev GH : Type := Nat → Option (Nat × va_E)
def gh_up (g : GH) (a t : Nat) (e : va_E) : GH := fun q => if q = a then some (t, e) else g q
theorem gh_us {g : GH} {a t : Nat} {e : va_E} : gh_up g a t e a = some (t, e) := by simp [gh_up]
theorem gh_un {g : GH} {a t q : Nat} {e : va_E} (h : q ≠ a) : gh_up g a t e q = g q := by simp [gh_up, h]
theorem gh_ne {g : GH} {a b : Nat} {x y : Nat × va_E} (ha : g a = some x) (hb : g b = some y) (h : x.1 ≠ y.1) : a ≠ b := fun z => by
  subst z
  rw [ha] at hb
  cases hb
  exact h rfl
def gh_P (D : va_G) (g : GH) (H : Heap) : Prop := ∀ (a t : Nat) (e : va_E), g a = some (t, e) → va_at D vwCl (a, e) H
def gh_A (g : GH) (sz : Nat) : Nat → Prop := fun q => g q ≠ none ∨ sz ≤ q
theorem gh_P.lt {D : va_G} {g : GH} {H : Heap} (h : gh_P D g H) {a t : Nat} {e : va_E} (ha : g a = some (t, e)) : a < H.size := (h a t e ha).lt
/-- the ghost world as a list, for the kit's rows -/
theorem gh_list {D : va_G} {g : GH} {H : Heap} {A : Nat → Prop} (hP : gh_P D g H) (hA : ∀ a, g a ≠ none → A a) : ∃ ws : va_W, va_P D vwCl ws H ∧ va_D A ws ∧ (∀ (a t : Nat) (e : va_E), g a = some (t, e) → ∃ k : Nat, ws[k]? = some (a, e)) ∧ ∀ (k : Nat) (q : Nat × va_E), ws[k]? = some q → ∃ t, g q.1 = some (t, q.2) := by
  have key : ∀ N : Nat, ∃ ws : va_W, (∀ (a t : Nat) (e : va_E), a < N → g a = some (t, e) → ∃ k : Nat, ws[k]? = some (a, e)) ∧ (∀ (k : Nat) (q : Nat × va_E), ws[k]? = some q → q.1 < N ∧ ∃ t, g q.1 = some (t, q.2)) ∧ ∀ (i j : Nat) (p q : Nat × va_E), ws[i]? = some p → ws[j]? = some q → p.1 = q.1 → i = j := by
    intro N
    induction N with
    | zero => exact ⟨[], fun a t e h => absurd h (Nat.not_lt_zero a), fun k q h => by simp at h, fun i j p q h => by simp at h⟩
    | succ N ih =>
      obtain ⟨ws, h1, h2, h3⟩ := ih
      cases hg : g N with
      | none =>
        refine ⟨ws, fun a t e ha he => ?_, fun k q h => ⟨Nat.lt_succ_of_lt (h2 k q h).1, (h2 k q h).2⟩, h3⟩
        rcases Nat.lt_succ_iff_lt_or_eq.mp ha with h | h
        · exact h1 a t e h he
        · subst h
          rw [hg] at he
          cases he
      | some x =>
        obtain ⟨t0, e0⟩ := x
        have key2 : ∀ (k : Nat) (q : Nat × va_E), (ws ++ [(N, e0)])[k]? = some q → (ws[k]? = some q ∧ q.1 < N) ∨ (k = ws.length ∧ q = (N, e0)) := by
          intro k q hk
          by_cases hl : k < ws.length
          · rw [List.getElem?_append_left hl] at hk
            exact Or.inl ⟨hk, (h2 k q hk).1⟩
          · rw [List.getElem?_append_right (by omega)] at hk
            have hz : k - ws.length < 1 := (List.getElem?_eq_some_iff.mp hk).1
            rw [show k - ws.length = 0 by omega] at hk
            cases hk
            exact Or.inr ⟨by omega, rfl⟩
        refine ⟨ws ++ [(N, e0)], fun a t e ha he => ?_, fun k q h => ?_, fun i j p q hi hj hpq => ?_⟩
        · rcases Nat.lt_succ_iff_lt_or_eq.mp ha with h | h
          · obtain ⟨k, hk⟩ := h1 a t e h he
            exact ⟨k, by rw [List.getElem?_append_left (List.getElem?_eq_some_iff.mp hk).1]; exact hk⟩
          · subst h
            rw [hg] at he
            cases he
            exact ⟨ws.length, by rw [List.getElem?_append_right (Nat.le_refl _), Nat.sub_self]; rfl⟩
        · rcases key2 k q h with ⟨h4, h5⟩ | ⟨-, h5⟩
          · exact ⟨Nat.lt_succ_of_lt h5, (h2 k q h4).2⟩
          · rw [h5]
            exact ⟨Nat.lt_succ_self N, t0, hg⟩
        · rcases key2 i p hi with ⟨a1, a2⟩ | ⟨a1, a2⟩ <;> rcases key2 j q hj with ⟨b1, b2⟩ | ⟨b1, b2⟩
          · exact h3 i j p q a1 b1 hpq
          · rw [b2] at hpq
            have hpq : p.1 = N := hpq
            omega
          · rw [a2] at hpq
            have hpq : N = q.1 := hpq
            omega
          · rw [a1, b1]
  obtain ⟨ws, h1, h2, h3⟩ := key H.size
  refine ⟨ws, fun k q hk => ?_, ⟨h3, fun k q hk => ?_⟩, fun a t e he => h1 a t e (hP.lt he) he, fun k q hk => (h2 k q hk).2⟩
  · obtain ⟨-, t, ht⟩ := h2 k q hk
    exact hP q.1 t q.2 ht
  · obtain ⟨-, t, ht⟩ := h2 k q hk
    exact hA q.1 (by rw [ht]; exact fun z => by cases z)
theorem gh_set {D : va_G} {g : GH} {H1 : Heap} {A : Nat → Prop} {ws : va_W} {k a : Nat} {e0 e : va_E} (t : Nat) (hD : va_D A ws) (hin : ∀ (a t : Nat) (e : va_E), g a = some (t, e) → ∃ k : Nat, ws[k]? = some (a, e)) (hk : ws[k]? = some (a, e0)) (h : va_P D vwCl (ws.set k (a, e)) H1) : gh_P D (gh_up g a t e) H1 := by
  have hl := (List.getElem?_eq_some_iff.mp hk).1
  intro b t1 e1 hb
  by_cases hba : b = a
  · subst hba
    rw [gh_us] at hb
    cases hb
    exact h k _ (List.getElem?_set_self hl)
  · rw [gh_un hba] at hb
    obtain ⟨j, hj⟩ := hin b t1 e1 hb
    have hjk : k ≠ j := fun z => by
      subst z
      rw [hk] at hj
      cases hj
      exact hba rfl
    exact h j _ (by rw [List.getElem?_set_ne hjk]; exact hj)
theorem gh_push {D : va_G} {g : GH} {H1 : Heap} {A : Nat → Prop} {ws : va_W} {a : Nat} {e : va_E} (t : Nat) (hin : ∀ (a t : Nat) (e : va_E), g a = some (t, e) → ∃ k : Nat, ws[k]? = some (a, e)) (h : va_P D vwCl (ws ++ [(a, e)]) H1) (hD : va_D A (ws ++ [(a, e)])) : g a = none ∧ gh_P D (gh_up g a t e) H1 := by
  have hlast : (ws ++ [(a, e)])[ws.length]? = some (a, e) := by rw [List.getElem?_append_right (Nat.le_refl _), Nat.sub_self]; rfl
  have hnone : g a = none := by
    cases hg : g a with
    | none => rfl
    | some x =>
      obtain ⟨k, hk⟩ := hin a x.1 x.2 hg
      have hlt := (List.getElem?_eq_some_iff.mp hk).1
      have := hD.1 k ws.length (a, x.2) (a, e) (by rw [List.getElem?_append_left hlt]; exact hk) hlast rfl
      omega
  refine ⟨hnone, fun b t1 e1 hb => ?_⟩
  by_cases hba : b = a
  · subst hba
    rw [gh_us] at hb
    cases hb
    exact h _ _ hlast
  · rw [gh_un hba] at hb
    obtain ⟨j, hj⟩ := hin b t1 e1 hb
    exact h j _ (by rw [List.getElem?_append_left (List.getElem?_eq_some_iff.mp hj).1]; exact hj)
/-! locals -/
def gh_L (ls : Array Slot) (lv : List (Option Value)) : Prop := ls.size = lv.length ∧ lv_wf ls ∧ ∀ (i : Nat) (v : Value), lv[i]? = some (some v) → v.category = 1 ∧ ls[i]? = some (.val v)
def gh_pr (lv : List (Option Value)) : List (Nat × Value) := (List.range lv.length).filterMap fun i => match lv[i]? with
  | some (some v) => some (i, v)
  | _ => none
theorem gh_pr_mem {lv : List (Option Value)} {i : Nat} {v : Value} : (i, v) ∈ gh_pr lv ↔ lv[i]? = some (some v) := by
  unfold gh_pr
  rw [List.mem_filterMap]
  constructor
  · rintro ⟨j, -, h⟩
    split at h
    · next w hw =>
      cases h
      exact hw
    · cases h
  · intro h
    exact ⟨i, List.mem_range.mpr (List.getElem?_eq_some_iff.mp h).1, by rw [h]⟩
theorem gh_L.has {ls : Array Slot} {lv : List (Option Value)} (h : gh_L ls lv) : lv_has ls lv.length (gh_pr lv) := ⟨h.1, h.2.1, fun q hq => (h.2.2 q.1 q.2 (gh_pr_mem.mp hq)).2⟩
theorem gh_L.put {ls ls' : Array Slot} {lv lv' : List (Option Value)} {i : Nat} {v : Value} (h : gh_L ls lv) (hv : v.category = 1) (hl : lv.set i (some v) = lv') (hn : lv_has ls' lv.length ((i, v) :: (gh_pr lv).filter (fun q => !(q.1 == i) && !(q.1 + 1 == i && q.2.category == 2)))) : gh_L ls' lv' := by
  subst hl
  refine ⟨by rw [List.length_set]; exact hn.1, hn.2.1, fun j w hj => ?_⟩
  by_cases hji : j = i
  · subst hji
    have hlt : j < lv.length := by
      have := (List.getElem?_eq_some_iff.mp hj).1
      rwa [List.length_set] at this
    rw [List.getElem?_set_self hlt] at hj
    cases hj
    exact ⟨hv, hn.2.2 (j, v) List.mem_cons_self⟩
  · rw [List.getElem?_set_ne (fun z => hji z.symm)] at hj
    have hc := (h.2.2 j w hj).1
    refine ⟨hc, hn.2.2 (j, w) (List.mem_cons_of_mem _ (List.mem_filter.mpr ⟨gh_pr_mem.mpr hj, ?_⟩))⟩
    simp [hji, hc]
theorem gh_args_in : ∀ (vs : List Value) (k i : Nat) (v : Value), (∀ w ∈ vs, w.category = 1) → vs[i]? = some v → (k + i, v) ∈ lv_args k vs
  | [], k, i, v, _, h => by simp at h
  | w :: vs, k, i, v, hc, h => by
    have hw : ¬ w.category = 2 := by
      have := hc w List.mem_cons_self
      omega
    simp only [lv_args, if_neg hw]
    cases i with
    | zero =>
      rw [List.getElem?_cons_zero] at h
      cases h
      exact List.mem_cons_self
    | succ i =>
      rw [List.getElem?_cons_succ] at h
      have := gh_args_in vs (k + 1) i v (fun w hw => hc w (List.mem_cons_of_mem _ hw)) h
      rw [show k + 1 + i = k + (i + 1) by omega] at this
      exact List.mem_cons_of_mem _ this
theorem gh_sl_len (vs : List Value) (hc : ∀ w ∈ vs, w.category = 1) : (lg_sl vs).length = vs.length := by
  induction vs with
  | nil => rfl
  | cons w vs ih =>
    have hw : ¬ w.category = 2 := by
      have := hc w List.mem_cons_self
      omega
    have := ih (fun w hw => hc w (List.mem_cons_of_mem _ hw))
    simp only [lg_sl, List.flatMap_cons, if_neg hw, List.length_append, List.length_cons, List.length_nil] at this ⊢
    omega
theorem gh_entry {vs : List Value} {n : Nat} {lv : List (Option Value)} (hc : ∀ w ∈ vs, w.category = 1) (hn : vs.length ≤ n) (hl : vs.map some ++ List.replicate (n - vs.length) none = lv) : gh_L ((lg_sl vs ++ List.replicate (n - (lg_sl vs).length) Slot.unset).toArray) lv := by
  subst hl
  have he := lv_entry vs (n := n) (by rw [gh_sl_len vs hc]; exact hn)
  refine ⟨by rw [he.1, List.length_append, List.length_map, List.length_replicate]; omega, he.2.1, fun i v h => ?_⟩
  by_cases hi : i < vs.length
  · rw [List.getElem?_append_left (by rw [List.length_map]; exact hi), List.getElem?_map] at h
    have h2 : vs[i]? = some v := by
      cases hv : vs[i]? with
      | none => rw [hv] at h; cases h
      | some w => rw [hv] at h; cases h; rfl
    have := gh_args_in vs 0 i v hc h2
    rw [Nat.zero_add] at this
    exact ⟨hc v (List.mem_of_getElem? h2), he.2.2 (i, v) this⟩
  · rw [List.getElem?_append_right (by rw [List.length_map]; omega)] at h
    have := List.eq_of_mem_replicate (List.mem_of_getElem? h)
    cases this

/-! the judgement -/
abbrev GX : Type := Program × Env × State × MethodId × Array Value × List Frame × Method × Code × (Nat → Prop) × (State → Prop)
def gh_W (l : Launch) (G : GG) (R : Room) (X : GX) (g : GH) (k n : Nat) (lv : List (Option Value)) (pc : Nat) (st : List Value) : Prop :=
  match X with
  | (p, e, s, m, args, below, meth, c, A, Q) => ∀ (H : Heap) (locs : List Loc) (ls : Array Slot), gh_P G.1 g H → (∀ a, g a ≠ none → A a) → va_S A s.heap H locs → gh_L ls lv → W p l e R s m args below meth c H locs k n Q (F0 m pc ls st)
def gh_K (G : GG) (X : GX) (cc : ByteArray) (nL : Nat) (own : String) : Prop :=
  match X with
  | (p, _, s, m, args, _, _, c, A, _) => p.tables.exec = Jvm.exec ∧ c.code = cc ∧ c.maxLocals = nL ∧ s.vm.findClass own = some m.cls ∧ (∀ w ∈ gTbl, w.before args s = true) ∧ gh_C G A s s.heap ∧ ∀ q, s.heap.size ≤ q → A q
def gh_I (X : GX) : Prop :=
  match X with
  | (_, _, _, _, _, _, meth, _, _, _) => meth.name = "<init>"
section GHR
variable {l : Launch} {G : GG} {R : Room} {X : GX} {cc : ByteArray} {nL : Nat} {own : String} {g : GH} {k n pc : Nat} {lv : List (Option Value)} {st : List Value}

theorem gh_iconst {i : Int} {v : Int32} (hK : gh_K G X cc nL own) (hd : decode cc pc = .ok (.iconst i, 1)) (hv : Int32.ofInt i = v) (kk : gh_W l G R X g k n lv (pc + 1) (.int v :: st)) : gh_W l G R X g k n lv pc (st) := by
  obtain ⟨p, e, s, m, args, below, meth, c, A, Q⟩ := X
  obtain ⟨hx, hb, hml, hown, hts, hC, hA⟩ := hK
  intro H locs ls hP hAa hS hl
  exact lv_iconst hx hb hd hv (kk H locs ls hP hAa hS hl)
theorem gh_bipush {i : Int} {v : Int32} (hK : gh_K G X cc nL own) (hd : decode cc pc = .ok (.bipush i, 2)) (hv : (Int8.ofInt i).toInt32 = v) (kk : gh_W l G R X g k n lv (pc + 2) (.int v :: st)) : gh_W l G R X g k n lv pc (st) := by
  obtain ⟨p, e, s, m, args, below, meth, c, A, Q⟩ := X
  obtain ⟨hx, hb, hml, hown, hts, hC, hA⟩ := hK
  intro H locs ls hP hAa hS hl
  exact lv_bipush hx hb hd hv (kk H locs ls hP hAa hS hl)
theorem gh_sipush {i : Int} {v : Int32} (hK : gh_K G X cc nL own) (hd : decode cc pc = .ok (.sipush i, 3)) (hv : (Int16.ofInt i).toInt32 = v) (kk : gh_W l G R X g k n lv (pc + 3) (.int v :: st)) : gh_W l G R X g k n lv pc (st) := by
  obtain ⟨p, e, s, m, args, below, meth, c, A, Q⟩ := X
  obtain ⟨hx, hb, hml, hown, hts, hC, hA⟩ := hK
  intro H locs ls hP hAa hS hl
  exact lv_sipush hx hb hd hv (kk H locs ls hP hAa hS hl)
theorem gh_null (hK : gh_K G X cc nL own) (hd : decode cc pc = .ok (.aconst_null, 1)) (kk : gh_W l G R X g k n lv (pc + 1) (.null :: st)) : gh_W l G R X g k n lv pc (st) := by
  obtain ⟨p, e, s, m, args, below, meth, c, A, Q⟩ := X
  obtain ⟨hx, hb, hml, hown, hts, hC, hA⟩ := hK
  intro H locs ls hP hAa hS hl
  exact lv_null hx hb hd (kk H locs ls hP hAa hS hl)
theorem gh_iload_n {i : Fin 4} {x : Int32} (hK : gh_K G X cc nL own) (hd : decode cc pc = .ok (.iload_n i, 1)) (hv : lv[i.val]? = some (some (.int x))) (kk : gh_W l G R X g k n lv (pc + 1) (.int x :: st)) : gh_W l G R X g k n lv pc (st) := by
  obtain ⟨p, e, s, m, args, below, meth, c, A, Q⟩ := X
  obtain ⟨hx, hb, hml, hown, hts, hC, hA⟩ := hK
  intro H locs ls hP hAa hS hl
  exact lv_iload_n hx hb hd rfl (hl.2.2 _ _ hv).2 (kk H locs ls hP hAa hS hl)
theorem gh_iload {i : Nat} {x : Int32} (hK : gh_K G X cc nL own) (hd : decode cc pc = .ok (.iload i, 2)) (hv : lv[i]? = some (some (.int x))) (kk : gh_W l G R X g k n lv (pc + 2) (.int x :: st)) : gh_W l G R X g k n lv pc (st) := by
  obtain ⟨p, e, s, m, args, below, meth, c, A, Q⟩ := X
  obtain ⟨hx, hb, hml, hown, hts, hC, hA⟩ := hK
  intro H locs ls hP hAa hS hl
  exact lv_iload hx hb hd (hl.2.2 _ _ hv).2 (kk H locs ls hP hAa hS hl)
theorem gh_aload_n {i : Fin 4} {x : Nat} (hK : gh_K G X cc nL own) (hd : decode cc pc = .ok (.aload_n i, 1)) (hv : lv[i.val]? = some (some (.ref x))) (kk : gh_W l G R X g k n lv (pc + 1) (.ref x :: st)) : gh_W l G R X g k n lv pc (st) := by
  obtain ⟨p, e, s, m, args, below, meth, c, A, Q⟩ := X
  obtain ⟨hx, hb, hml, hown, hts, hC, hA⟩ := hK
  intro H locs ls hP hAa hS hl
  exact lv_aload_n hx hb hd rfl (hl.2.2 _ _ hv).2 (kk H locs ls hP hAa hS hl)
theorem gh_aload {i x : Nat} (hK : gh_K G X cc nL own) (hd : decode cc pc = .ok (.aload i, 2)) (hv : lv[i]? = some (some (.ref x))) (kk : gh_W l G R X g k n lv (pc + 2) (.ref x :: st)) : gh_W l G R X g k n lv pc (st) := by
  obtain ⟨p, e, s, m, args, below, meth, c, A, Q⟩ := X
  obtain ⟨hx, hb, hml, hown, hts, hC, hA⟩ := hK
  intro H locs ls hP hAa hS hl
  exact lv_aload hx hb hd (hl.2.2 _ _ hv).2 (kk H locs ls hP hAa hS hl)
theorem gh_aload_nN {i : Fin 4} (hK : gh_K G X cc nL own) (hd : decode cc pc = .ok (.aload_n i, 1)) (hv : lv[i.val]? = some (some .null)) (kk : gh_W l G R X g k n lv (pc + 1) (.null :: st)) : gh_W l G R X g k n lv pc (st) := by
  obtain ⟨p, e, s, m, args, below, meth, c, A, Q⟩ := X
  obtain ⟨hx, hb, hml, hown, hts, hC, hA⟩ := hK
  intro H locs ls hP hAa hS hl
  exact lv_aload_nN hx hb hd rfl (hl.2.2 _ _ hv).2 (kk H locs ls hP hAa hS hl)
theorem gh_aloadN {i : Nat} (hK : gh_K G X cc nL own) (hd : decode cc pc = .ok (.aload i, 2)) (hv : lv[i]? = some (some .null)) (kk : gh_W l G R X g k n lv (pc + 2) (.null :: st)) : gh_W l G R X g k n lv pc (st) := by
  obtain ⟨p, e, s, m, args, below, meth, c, A, Q⟩ := X
  obtain ⟨hx, hb, hml, hown, hts, hC, hA⟩ := hK
  intro H locs ls hP hAa hS hl
  exact lv_aloadN hx hb hd (hl.2.2 _ _ hv).2 (kk H locs ls hP hAa hS hl)
theorem gh_iadd {x y : Int32} (hK : gh_K G X cc nL own) (hd : decode cc pc = .ok (.iadd, 1)) (kk : gh_W l G R X g k n lv (pc + 1) (.int (x + y) :: st)) : gh_W l G R X g k n lv pc (.int y :: .int x :: st) := by
  obtain ⟨p, e, s, m, args, below, meth, c, A, Q⟩ := X
  obtain ⟨hx, hb, hml, hown, hts, hC, hA⟩ := hK
  intro H locs ls hP hAa hS hl
  exact lv_iadd hx hb hd (kk H locs ls hP hAa hS hl)
theorem gh_isub {x y : Int32} (hK : gh_K G X cc nL own) (hd : decode cc pc = .ok (.isub, 1)) (kk : gh_W l G R X g k n lv (pc + 1) (.int (x - y) :: st)) : gh_W l G R X g k n lv pc (.int y :: .int x :: st) := by
  obtain ⟨p, e, s, m, args, below, meth, c, A, Q⟩ := X
  obtain ⟨hx, hb, hml, hown, hts, hC, hA⟩ := hK
  intro H locs ls hP hAa hS hl
  exact lv_isub hx hb hd (kk H locs ls hP hAa hS hl)
theorem gh_imul {x y : Int32} (hK : gh_K G X cc nL own) (hd : decode cc pc = .ok (.imul, 1)) (kk : gh_W l G R X g k n lv (pc + 1) (.int (x * y) :: st)) : gh_W l G R X g k n lv pc (.int y :: .int x :: st) := by
  obtain ⟨p, e, s, m, args, below, meth, c, A, Q⟩ := X
  obtain ⟨hx, hb, hml, hown, hts, hC, hA⟩ := hK
  intro H locs ls hP hAa hS hl
  exact lv_imul hx hb hd (kk H locs ls hP hAa hS hl)
theorem gh_iand {x y : Int32} (hK : gh_K G X cc nL own) (hd : decode cc pc = .ok (.iand, 1)) (kk : gh_W l G R X g k n lv (pc + 1) (.int (x &&& y) :: st)) : gh_W l G R X g k n lv pc (.int y :: .int x :: st) := by
  obtain ⟨p, e, s, m, args, below, meth, c, A, Q⟩ := X
  obtain ⟨hx, hb, hml, hown, hts, hC, hA⟩ := hK
  intro H locs ls hP hAa hS hl
  exact lv_iand hx hb hd (kk H locs ls hP hAa hS hl)
theorem gh_ior {x y : Int32} (hK : gh_K G X cc nL own) (hd : decode cc pc = .ok (.ior, 1)) (kk : gh_W l G R X g k n lv (pc + 1) (.int (x ||| y) :: st)) : gh_W l G R X g k n lv pc (.int y :: .int x :: st) := by
  obtain ⟨p, e, s, m, args, below, meth, c, A, Q⟩ := X
  obtain ⟨hx, hb, hml, hown, hts, hC, hA⟩ := hK
  intro H locs ls hP hAa hS hl
  exact lv_ior hx hb hd (kk H locs ls hP hAa hS hl)
theorem gh_ixor {x y : Int32} (hK : gh_K G X cc nL own) (hd : decode cc pc = .ok (.ixor, 1)) (kk : gh_W l G R X g k n lv (pc + 1) (.int (x ^^^ y) :: st)) : gh_W l G R X g k n lv pc (.int y :: .int x :: st) := by
  obtain ⟨p, e, s, m, args, below, meth, c, A, Q⟩ := X
  obtain ⟨hx, hb, hml, hown, hts, hC, hA⟩ := hK
  intro H locs ls hP hAa hS hl
  exact lv_ixor hx hb hd (kk H locs ls hP hAa hS hl)
theorem gh_ishl {x y : Int32} (hK : gh_K G X cc nL own) (hd : decode cc pc = .ok (.ishl, 1)) (kk : gh_W l G R X g k n lv (pc + 1) (.int (x <<< (y &&& 31)) :: st)) : gh_W l G R X g k n lv pc (.int y :: .int x :: st) := by
  obtain ⟨p, e, s, m, args, below, meth, c, A, Q⟩ := X
  obtain ⟨hx, hb, hml, hown, hts, hC, hA⟩ := hK
  intro H locs ls hP hAa hS hl
  exact lv_ishl hx hb hd (kk H locs ls hP hAa hS hl)
theorem gh_ishr {x y : Int32} (hK : gh_K G X cc nL own) (hd : decode cc pc = .ok (.ishr, 1)) (kk : gh_W l G R X g k n lv (pc + 1) (.int (x >>> (y &&& 31)) :: st)) : gh_W l G R X g k n lv pc (.int y :: .int x :: st) := by
  obtain ⟨p, e, s, m, args, below, meth, c, A, Q⟩ := X
  obtain ⟨hx, hb, hml, hown, hts, hC, hA⟩ := hK
  intro H locs ls hP hAa hS hl
  exact lv_ishr hx hb hd (kk H locs ls hP hAa hS hl)
theorem gh_idiv {x y : Int32} (hK : gh_K G X cc nL own) (hd : decode cc pc = .ok (.idiv, 1)) (hz : ¬ y = 0) (kk : gh_W l G R X g k n lv (pc + 1) (.int (x / y) :: st)) : gh_W l G R X g k n lv pc (.int y :: .int x :: st) := by
  obtain ⟨p, e, s, m, args, below, meth, c, A, Q⟩ := X
  obtain ⟨hx, hb, hml, hown, hts, hC, hA⟩ := hK
  intro H locs ls hP hAa hS hl
  exact lv_idiv hx hb hd hz (kk H locs ls hP hAa hS hl)
theorem gh_irem {x y : Int32} (hK : gh_K G X cc nL own) (hd : decode cc pc = .ok (.irem, 1)) (hz : ¬ y = 0) (kk : gh_W l G R X g k n lv (pc + 1) (.int (x - x / y * y) :: st)) : gh_W l G R X g k n lv pc (.int y :: .int x :: st) := by
  obtain ⟨p, e, s, m, args, below, meth, c, A, Q⟩ := X
  obtain ⟨hx, hb, hml, hown, hts, hC, hA⟩ := hK
  intro H locs ls hP hAa hS hl
  exact lv_irem hx hb hd hz (kk H locs ls hP hAa hS hl)
theorem gh_ineg {x : Int32} (hK : gh_K G X cc nL own) (hd : decode cc pc = .ok (.ineg, 1)) (kk : gh_W l G R X g k n lv (pc + 1) (.int (-x) :: st)) : gh_W l G R X g k n lv pc (.int x :: st) := by
  obtain ⟨p, e, s, m, args, below, meth, c, A, Q⟩ := X
  obtain ⟨hx, hb, hml, hown, hts, hC, hA⟩ := hK
  intro H locs ls hP hAa hS hl
  exact lv_ineg hx hb hd (kk H locs ls hP hAa hS hl)
theorem gh_iushr {x y v : Int32} (hK : gh_K G X cc nL own) (hd : decode cc pc = .ok (.iushr, 1)) (hv : (x.toUInt32 >>> (y.toUInt32 &&& Int32.toUInt32 31)).toInt32 = v) (kk : gh_W l G R X g k n lv (pc + 1) (.int v :: st)) : gh_W l G R X g k n lv pc (.int y :: .int x :: st) := by
  obtain ⟨p, e, s, m, args, below, meth, c, A, Q⟩ := X
  obtain ⟨hx, hb, hml, hown, hts, hC, hA⟩ := hK
  intro H locs ls hP hAa hS hl
  exact lv_iushr hx hb hd hv (kk H locs ls hP hAa hS hl)
theorem gh_i2c {x v : Int32} (hK : gh_K G X cc nL own) (hd : decode cc pc = .ok (.i2c, 1)) (hv : (x.toUInt32 % 65536).toInt32 = v) (kk : gh_W l G R X g k n lv (pc + 1) (.int v :: st)) : gh_W l G R X g k n lv pc (.int x :: st) := by
  obtain ⟨p, e, s, m, args, below, meth, c, A, Q⟩ := X
  obtain ⟨hx, hb, hml, hown, hts, hC, hA⟩ := hK
  intro H locs ls hP hAa hS hl
  exact lv_i2c hx hb hd hv (kk H locs ls hP hAa hS hl)
theorem gh_i2b {x v : Int32} (hK : gh_K G X cc nL own) (hd : decode cc pc = .ok (.i2b, 1)) (hv : x.toInt8.toInt32 = v) (kk : gh_W l G R X g k n lv (pc + 1) (.int v :: st)) : gh_W l G R X g k n lv pc (.int x :: st) := by
  obtain ⟨p, e, s, m, args, below, meth, c, A, Q⟩ := X
  obtain ⟨hx, hb, hml, hown, hts, hC, hA⟩ := hK
  intro H locs ls hP hAa hS hl
  exact lv_i2b hx hb hd hv (kk H locs ls hP hAa hS hl)
theorem gh_dup {va : Value} (hK : gh_K G X cc nL own) (hd : decode cc pc = .ok (.dup, 1)) (hc : va.category = 1) (kk : gh_W l G R X g k n lv (pc + 1) (va :: va :: st)) : gh_W l G R X g k n lv pc (va :: st) := by
  obtain ⟨p, e, s, m, args, below, meth, c, A, Q⟩ := X
  obtain ⟨hx, hb, hml, hown, hts, hC, hA⟩ := hK
  intro H locs ls hP hAa hS hl
  exact lv_dup hx hb hd hc (kk H locs ls hP hAa hS hl)
theorem gh_dup_x1 {va vb : Value} (hK : gh_K G X cc nL own) (hd : decode cc pc = .ok (.dup_x1, 1)) (hc : va.category = 1) (hc2 : vb.category = 1) (kk : gh_W l G R X g k n lv (pc + 1) (va :: vb :: va :: st)) : gh_W l G R X g k n lv pc (va :: vb :: st) := by
  obtain ⟨p, e, s, m, args, below, meth, c, A, Q⟩ := X
  obtain ⟨hx, hb, hml, hown, hts, hC, hA⟩ := hK
  intro H locs ls hP hAa hS hl
  exact lv_dup_x1 hx hb hd hc hc2 (kk H locs ls hP hAa hS hl)
theorem gh_dup_x2 {va vb vd : Value} (hK : gh_K G X cc nL own) (hd : decode cc pc = .ok (.dup_x2, 1)) (hc : va.category = 1) (hc2 : vb.category = 1) (hc3 : vd.category = 1) (kk : gh_W l G R X g k n lv (pc + 1) (va :: vb :: vd :: va :: st)) : gh_W l G R X g k n lv pc (va :: vb :: vd :: st) := by
  obtain ⟨p, e, s, m, args, below, meth, c, A, Q⟩ := X
  obtain ⟨hx, hb, hml, hown, hts, hC, hA⟩ := hK
  intro H locs ls hP hAa hS hl
  exact lv_dup_x2 hx hb hd hc hc2 hc3 (kk H locs ls hP hAa hS hl)
theorem gh_dup2 {va vb : Value} (hK : gh_K G X cc nL own) (hd : decode cc pc = .ok (.dup2, 1)) (hc : va.category = 1) (hc2 : vb.category = 1) (kk : gh_W l G R X g k n lv (pc + 1) (va :: vb :: va :: vb :: st)) : gh_W l G R X g k n lv pc (va :: vb :: st) := by
  obtain ⟨p, e, s, m, args, below, meth, c, A, Q⟩ := X
  obtain ⟨hx, hb, hml, hown, hts, hC, hA⟩ := hK
  intro H locs ls hP hAa hS hl
  exact lv_dup2_11 hx hb hd hc hc2 (kk H locs ls hP hAa hS hl)
theorem gh_pop {va : Value} (hK : gh_K G X cc nL own) (hd : decode cc pc = .ok (.pop, 1)) (hc : va.category = 1) (kk : gh_W l G R X g k n lv (pc + 1) (st)) : gh_W l G R X g k n lv pc (va :: st) := by
  obtain ⟨p, e, s, m, args, below, meth, c, A, Q⟩ := X
  obtain ⟨hx, hb, hml, hown, hts, hC, hA⟩ := hK
  intro H locs ls hP hAa hS hl
  exact lv_pop hx hb hd hc (kk H locs ls hP hAa hS hl)
theorem gh_goto {off : Int} {tgt : Nat} (hK : gh_K G X cc nL own) (hd : decode cc pc = .ok (.goto off, 3)) (ht : (pc : Int) + off = (tgt : Int)) (kk : gh_W l G R X g k n lv tgt (st)) : gh_W l G R X g k n lv pc (st) := by
  obtain ⟨p, e, s, m, args, below, meth, c, A, Q⟩ := X
  obtain ⟨hx, hb, hml, hown, hts, hC, hA⟩ := hK
  intro H locs ls hP hAa hS hl
  exact lv_goto hx hb hd ht (kk H locs ls hP hAa hS hl)
theorem gh_ifnonnull {x : Nat} {off : Int} {tgt : Nat} (hK : gh_K G X cc nL own) (hd : decode cc pc = .ok (.ifnonnull off, 3)) (ht : (pc : Int) + off = (tgt : Int)) (kk : gh_W l G R X g k n lv tgt (st)) : gh_W l G R X g k n lv pc (.ref x :: st) := by
  obtain ⟨p, e, s, m, args, below, meth, c, A, Q⟩ := X
  obtain ⟨hx, hb, hml, hown, hts, hC, hA⟩ := hK
  intro H locs ls hP hAa hS hl
  exact lv_ifnonnull hx hb hd ht (kk H locs ls hP hAa hS hl)
theorem gh_ifnonnullN {off : Int} (hK : gh_K G X cc nL own) (hd : decode cc pc = .ok (.ifnonnull off, 3)) (kk : gh_W l G R X g k n lv (pc + 3) (st)) : gh_W l G R X g k n lv pc (.null :: st) := by
  obtain ⟨p, e, s, m, args, below, meth, c, A, Q⟩ := X
  obtain ⟨hx, hb, hml, hown, hts, hC, hA⟩ := hK
  intro H locs ls hP hAa hS hl
  exact lv_ifnonnullN hx hb hd (kk H locs ls hP hAa hS hl)
theorem gh_ifnull {x : Nat} {off : Int} (hK : gh_K G X cc nL own) (hd : decode cc pc = .ok (.ifnull off, 3)) (kk : gh_W l G R X g k n lv (pc + 3) (st)) : gh_W l G R X g k n lv pc (.ref x :: st) := by
  obtain ⟨p, e, s, m, args, below, meth, c, A, Q⟩ := X
  obtain ⟨hx, hb, hml, hown, hts, hC, hA⟩ := hK
  intro H locs ls hP hAa hS hl
  exact lv_ifnull hx hb hd (kk H locs ls hP hAa hS hl)
theorem gh_ifnullN {off : Int} {tgt : Nat} (hK : gh_K G X cc nL own) (hd : decode cc pc = .ok (.ifnull off, 3)) (ht : (pc : Int) + off = (tgt : Int)) (kk : gh_W l G R X g k n lv tgt (st)) : gh_W l G R X g k n lv pc (.null :: st) := by
  obtain ⟨p, e, s, m, args, below, meth, c, A, Q⟩ := X
  obtain ⟨hx, hb, hml, hown, hts, hC, hA⟩ := hK
  intro H locs ls hP hAa hS hl
  exact lv_ifnullN hx hb hd ht (kk H locs ls hP hAa hS hl)
-- branches
theorem gh_if_eq {x : Int32} {off : Int} {tgt : Nat} (hK : gh_K G X cc nL own) (hd : decode cc pc = .ok (.ifCond .eq off, 3)) (ht : (pc : Int) + off = (tgt : Int)) (kt : x = 0 → gh_W l G R X g k n lv tgt st) (kf : ¬ x = 0 → gh_W l G R X g k n lv (pc + 3) st) : gh_W l G R X g k n lv pc (.int x :: st) := by
  obtain ⟨p, e, s, m, args, below, meth, c, A, Q⟩ := X
  obtain ⟨hx, hb, hml, hown, hts, hC, hA⟩ := hK
  intro H locs ls hP hAa hS hl
  exact lv_if_eq hx hb hd ht (fun z => kt z H locs ls hP hAa hS hl) (fun z => kf z H locs ls hP hAa hS hl)
theorem gh_icmp_eq {x y : Int32} {off : Int} {tgt : Nat} (hK : gh_K G X cc nL own) (hd : decode cc pc = .ok (.if_icmp .eq off, 3)) (ht : (pc : Int) + off = (tgt : Int)) (kt : x = y → gh_W l G R X g k n lv tgt st) (kf : ¬ x = y → gh_W l G R X g k n lv (pc + 3) st) : gh_W l G R X g k n lv pc (.int y :: .int x :: st) := by
  obtain ⟨p, e, s, m, args, below, meth, c, A, Q⟩ := X
  obtain ⟨hx, hb, hml, hown, hts, hC, hA⟩ := hK
  intro H locs ls hP hAa hS hl
  exact lv_icmp_eq hx hb hd ht (fun z => kt z H locs ls hP hAa hS hl) (fun z => kf z H locs ls hP hAa hS hl)
theorem gh_if_ne {x : Int32} {off : Int} {tgt : Nat} (hK : gh_K G X cc nL own) (hd : decode cc pc = .ok (.ifCond .ne off, 3)) (ht : (pc : Int) + off = (tgt : Int)) (kt : ¬ x = 0 → gh_W l G R X g k n lv tgt st) (kf : x = 0 → gh_W l G R X g k n lv (pc + 3) st) : gh_W l G R X g k n lv pc (.int x :: st) := by
  obtain ⟨p, e, s, m, args, below, meth, c, A, Q⟩ := X
  obtain ⟨hx, hb, hml, hown, hts, hC, hA⟩ := hK
  intro H locs ls hP hAa hS hl
  exact lv_if_ne hx hb hd ht (fun z => kt z H locs ls hP hAa hS hl) (fun z => kf z H locs ls hP hAa hS hl)
theorem gh_icmp_ne {x y : Int32} {off : Int} {tgt : Nat} (hK : gh_K G X cc nL own) (hd : decode cc pc = .ok (.if_icmp .ne off, 3)) (ht : (pc : Int) + off = (tgt : Int)) (kt : ¬ x = y → gh_W l G R X g k n lv tgt st) (kf : x = y → gh_W l G R X g k n lv (pc + 3) st) : gh_W l G R X g k n lv pc (.int y :: .int x :: st) := by
  obtain ⟨p, e, s, m, args, below, meth, c, A, Q⟩ := X
  obtain ⟨hx, hb, hml, hown, hts, hC, hA⟩ := hK
  intro H locs ls hP hAa hS hl
  exact lv_icmp_ne hx hb hd ht (fun z => kt z H locs ls hP hAa hS hl) (fun z => kf z H locs ls hP hAa hS hl)
theorem gh_if_lt {x : Int32} {off : Int} {tgt : Nat} (hK : gh_K G X cc nL own) (hd : decode cc pc = .ok (.ifCond .lt off, 3)) (ht : (pc : Int) + off = (tgt : Int)) (kt : x < 0 → gh_W l G R X g k n lv tgt st) (kf : ¬ x < 0 → gh_W l G R X g k n lv (pc + 3) st) : gh_W l G R X g k n lv pc (.int x :: st) := by
  obtain ⟨p, e, s, m, args, below, meth, c, A, Q⟩ := X
  obtain ⟨hx, hb, hml, hown, hts, hC, hA⟩ := hK
  intro H locs ls hP hAa hS hl
  exact lv_if_lt hx hb hd ht (fun z => kt z H locs ls hP hAa hS hl) (fun z => kf z H locs ls hP hAa hS hl)
theorem gh_icmp_lt {x y : Int32} {off : Int} {tgt : Nat} (hK : gh_K G X cc nL own) (hd : decode cc pc = .ok (.if_icmp .lt off, 3)) (ht : (pc : Int) + off = (tgt : Int)) (kt : x < y → gh_W l G R X g k n lv tgt st) (kf : ¬ x < y → gh_W l G R X g k n lv (pc + 3) st) : gh_W l G R X g k n lv pc (.int y :: .int x :: st) := by
  obtain ⟨p, e, s, m, args, below, meth, c, A, Q⟩ := X
  obtain ⟨hx, hb, hml, hown, hts, hC, hA⟩ := hK
  intro H locs ls hP hAa hS hl
  exact lv_icmp_lt hx hb hd ht (fun z => kt z H locs ls hP hAa hS hl) (fun z => kf z H locs ls hP hAa hS hl)
theorem gh_if_ge {x : Int32} {off : Int} {tgt : Nat} (hK : gh_K G X cc nL own) (hd : decode cc pc = .ok (.ifCond .ge off, 3)) (ht : (pc : Int) + off = (tgt : Int)) (kt : 0 ≤ x → gh_W l G R X g k n lv tgt st) (kf : ¬ 0 ≤ x → gh_W l G R X g k n lv (pc + 3) st) : gh_W l G R X g k n lv pc (.int x :: st) := by
  obtain ⟨p, e, s, m, args, below, meth, c, A, Q⟩ := X
  obtain ⟨hx, hb, hml, hown, hts, hC, hA⟩ := hK
  intro H locs ls hP hAa hS hl
  exact lv_if_ge hx hb hd ht (fun z => kt z H locs ls hP hAa hS hl) (fun z => kf z H locs ls hP hAa hS hl)
theorem gh_icmp_ge {x y : Int32} {off : Int} {tgt : Nat} (hK : gh_K G X cc nL own) (hd : decode cc pc = .ok (.if_icmp .ge off, 3)) (ht : (pc : Int) + off = (tgt : Int)) (kt : y ≤ x → gh_W l G R X g k n lv tgt st) (kf : ¬ y ≤ x → gh_W l G R X g k n lv (pc + 3) st) : gh_W l G R X g k n lv pc (.int y :: .int x :: st) := by
  obtain ⟨p, e, s, m, args, below, meth, c, A, Q⟩ := X
  obtain ⟨hx, hb, hml, hown, hts, hC, hA⟩ := hK
  intro H locs ls hP hAa hS hl
  exact lv_icmp_ge hx hb hd ht (fun z => kt z H locs ls hP hAa hS hl) (fun z => kf z H locs ls hP hAa hS hl)
theorem gh_if_gt {x : Int32} {off : Int} {tgt : Nat} (hK : gh_K G X cc nL own) (hd : decode cc pc = .ok (.ifCond .gt off, 3)) (ht : (pc : Int) + off = (tgt : Int)) (kt : 0 < x → gh_W l G R X g k n lv tgt st) (kf : ¬ 0 < x → gh_W l G R X g k n lv (pc + 3) st) : gh_W l G R X g k n lv pc (.int x :: st) := by
  obtain ⟨p, e, s, m, args, below, meth, c, A, Q⟩ := X
  obtain ⟨hx, hb, hml, hown, hts, hC, hA⟩ := hK
  intro H locs ls hP hAa hS hl
  exact lv_if_gt hx hb hd ht (fun z => kt z H locs ls hP hAa hS hl) (fun z => kf z H locs ls hP hAa hS hl)
theorem gh_icmp_gt {x y : Int32} {off : Int} {tgt : Nat} (hK : gh_K G X cc nL own) (hd : decode cc pc = .ok (.if_icmp .gt off, 3)) (ht : (pc : Int) + off = (tgt : Int)) (kt : y < x → gh_W l G R X g k n lv tgt st) (kf : ¬ y < x → gh_W l G R X g k n lv (pc + 3) st) : gh_W l G R X g k n lv pc (.int y :: .int x :: st) := by
  obtain ⟨p, e, s, m, args, below, meth, c, A, Q⟩ := X
  obtain ⟨hx, hb, hml, hown, hts, hC, hA⟩ := hK
  intro H locs ls hP hAa hS hl
  exact lv_icmp_gt hx hb hd ht (fun z => kt z H locs ls hP hAa hS hl) (fun z => kf z H locs ls hP hAa hS hl)
theorem gh_if_le {x : Int32} {off : Int} {tgt : Nat} (hK : gh_K G X cc nL own) (hd : decode cc pc = .ok (.ifCond .le off, 3)) (ht : (pc : Int) + off = (tgt : Int)) (kt : x ≤ 0 → gh_W l G R X g k n lv tgt st) (kf : ¬ x ≤ 0 → gh_W l G R X g k n lv (pc + 3) st) : gh_W l G R X g k n lv pc (.int x :: st) := by
  obtain ⟨p, e, s, m, args, below, meth, c, A, Q⟩ := X
  obtain ⟨hx, hb, hml, hown, hts, hC, hA⟩ := hK
  intro H locs ls hP hAa hS hl
  exact lv_if_le hx hb hd ht (fun z => kt z H locs ls hP hAa hS hl) (fun z => kf z H locs ls hP hAa hS hl)
theorem gh_icmp_le {x y : Int32} {off : Int} {tgt : Nat} (hK : gh_K G X cc nL own) (hd : decode cc pc = .ok (.if_icmp .le off, 3)) (ht : (pc : Int) + off = (tgt : Int)) (kt : x ≤ y → gh_W l G R X g k n lv tgt st) (kf : ¬ x ≤ y → gh_W l G R X g k n lv (pc + 3) st) : gh_W l G R X g k n lv pc (.int y :: .int x :: st) := by
  obtain ⟨p, e, s, m, args, below, meth, c, A, Q⟩ := X
  obtain ⟨hx, hb, hml, hown, hts, hC, hA⟩ := hK
  intro H locs ls hP hAa hS hl
  exact lv_icmp_le hx hb hd ht (fun z => kt z H locs ls hP hAa hS hl) (fun z => kf z H locs ls hP hAa hS hl)
theorem gh_istore_n {i : Fin 4} {x : Int32} {lv' : List (Option Value)} (hK : gh_K G X cc nL own) (hd : decode cc pc = .ok (.istore_n i, 1)) (hn : i.val < lv.length) (hv : lv.set i.val (some (Value.int x)) = lv') (kk : gh_W l G R X g k n lv' (pc + 1) st) : gh_W l G R X g k n lv pc (Value.int x :: st) := by
  obtain ⟨p, e, s, m, args, below, meth, c, A, Q⟩ := X
  obtain ⟨hx, hb, hml, hown, hts, hC, hA⟩ := hK
  intro H locs ls hP hAa hS hl
  exact lv_istore_n hx hb hd rfl hl.has hn rfl (fun ls' hl' => kk H locs ls' hP hAa hS (hl.put rfl hv hl'))
theorem gh_istore {i : Nat} {x : Int32} {lv' : List (Option Value)} (hK : gh_K G X cc nL own) (hd : decode cc pc = .ok (.istore i, 2)) (hn : i < lv.length) (hv : lv.set i (some (Value.int x)) = lv') (kk : gh_W l G R X g k n lv' (pc + 2) st) : gh_W l G R X g k n lv pc (Value.int x :: st) := by
  obtain ⟨p, e, s, m, args, below, meth, c, A, Q⟩ := X
  obtain ⟨hx, hb, hml, hown, hts, hC, hA⟩ := hK
  intro H locs ls hP hAa hS hl
  exact lv_istore hx hb hd hl.has hn rfl (fun ls' hl' => kk H locs ls' hP hAa hS (hl.put rfl hv hl'))
theorem gh_astore_n {i : Fin 4} {x : Nat} {lv' : List (Option Value)} (hK : gh_K G X cc nL own) (hd : decode cc pc = .ok (.astore_n i, 1)) (hn : i.val < lv.length) (hv : lv.set i.val (some (Value.ref x)) = lv') (kk : gh_W l G R X g k n lv' (pc + 1) st) : gh_W l G R X g k n lv pc (Value.ref x :: st) := by
  obtain ⟨p, e, s, m, args, below, meth, c, A, Q⟩ := X
  obtain ⟨hx, hb, hml, hown, hts, hC, hA⟩ := hK
  intro H locs ls hP hAa hS hl
  exact lv_astore_n hx hb hd rfl hl.has hn rfl (fun ls' hl' => kk H locs ls' hP hAa hS (hl.put rfl hv hl'))
theorem gh_astore {i x : Nat} {lv' : List (Option Value)} (hK : gh_K G X cc nL own) (hd : decode cc pc = .ok (.astore i, 2)) (hn : i < lv.length) (hv : lv.set i (some (Value.ref x)) = lv') (kk : gh_W l G R X g k n lv' (pc + 2) st) : gh_W l G R X g k n lv pc (Value.ref x :: st) := by
  obtain ⟨p, e, s, m, args, below, meth, c, A, Q⟩ := X
  obtain ⟨hx, hb, hml, hown, hts, hC, hA⟩ := hK
  intro H locs ls hP hAa hS hl
  exact lv_astore hx hb hd hl.has hn rfl (fun ls' hl' => kk H locs ls' hP hAa hS (hl.put rfl hv hl'))
theorem gh_astore_nN {i : Fin 4} {lv' : List (Option Value)} (hK : gh_K G X cc nL own) (hd : decode cc pc = .ok (.astore_n i, 1)) (hn : i.val < lv.length) (hv : lv.set i.val (some (Value.null)) = lv') (kk : gh_W l G R X g k n lv' (pc + 1) st) : gh_W l G R X g k n lv pc (Value.null :: st) := by
  obtain ⟨p, e, s, m, args, below, meth, c, A, Q⟩ := X
  obtain ⟨hx, hb, hml, hown, hts, hC, hA⟩ := hK
  intro H locs ls hP hAa hS hl
  exact lv_astore_nN hx hb hd rfl hl.has hn rfl (fun ls' hl' => kk H locs ls' hP hAa hS (hl.put rfl hv hl'))
theorem gh_astoreN {i : Nat} {lv' : List (Option Value)} (hK : gh_K G X cc nL own) (hd : decode cc pc = .ok (.astore i, 2)) (hn : i < lv.length) (hv : lv.set i (some (Value.null)) = lv') (kk : gh_W l G R X g k n lv' (pc + 2) st) : gh_W l G R X g k n lv pc (Value.null :: st) := by
  obtain ⟨p, e, s, m, args, below, meth, c, A, Q⟩ := X
  obtain ⟨hx, hb, hml, hown, hts, hC, hA⟩ := hK
  intro H locs ls hP hAa hS hl
  exact lv_astoreN hx hb hd hl.has hn rfl (fun ls' hl' => kk H locs ls' hP hAa hS (hl.put rfl hv hl'))
theorem gh_iinc {i : Nat} {j : Int} {x v : Int32} {lv' : List (Option Value)} (hK : gh_K G X cc nL own) (hd : decode cc pc = .ok (.iinc i j, 3)) (hx1 : lv[i]? = some (some (.int x))) (hj : x + Int32.ofInt j = v) (hv : lv.set i (some (.int v)) = lv') (kk : gh_W l G R X g k n lv' (pc + 3) st) : gh_W l G R X g k n lv pc st := by
  obtain ⟨p, e, s, m, args, below, meth, c, A, Q⟩ := X
  obtain ⟨hx, hb, hml, hown, hts, hC, hA⟩ := hK
  intro H locs ls hP hAa hS hl
  obtain ⟨q, hq⟩ := List.getElem?_of_mem (gh_pr_mem.mpr hx1)
  exact lv_iinc hx hb hd hl.has hq hj (List.getElem?_eq_some_iff.mp hx1).1 rfl (fun ls' hl' => kk H locs ls' hP hAa hS (hl.put rfl hv hl'))
theorem gh_widen {k' n' : Nat} (h1 : k ≤ k') (h2 : n ≤ n') (kk : gh_W l G R X g k' n' lv pc st) : gh_W l G R X g k n lv pc st := by
  obtain ⟨p, e, s, m, args, below, meth, c, A, Q⟩ := X
  intro H locs ls hP hAa hS hl
  exact W.widen h1 h2 (kk H locs ls hP hAa hS hl)
theorem gh_topi {x : Int32} (kk : ∀ y : Int32, y = x → gh_W l G R X g k n lv pc (.int y :: st)) : gh_W l G R X g k n lv pc (.int x :: st) := kk x rfl
theorem gh_to {x y : Int32} (h : x = y) (kk : gh_W l G R X g k n lv pc (.int y :: st)) : gh_W l G R X g k n lv pc (.int x :: st) := h ▸ kk
/-- fewer locals are known -/
theorem gh_less {lv' : List (Option Value)} (h1 : lv'.length = lv.length) (h2 : ∀ (i : Nat) (v : Value), lv'[i]? = some (some v) → lv[i]? = some (some v)) (kk : gh_W l G R X g k n lv' pc st) : gh_W l G R X g k n lv pc st := by
  obtain ⟨p, e, s, m, args, below, meth, c, A, Q⟩ := X
  intro H locs ls hP hAa hS hl
  exact kk H locs ls hP hAa hS ⟨by rw [h1]; exact hl.1, hl.2.1, fun i v h => hl.2.2 i v (h2 i v h)⟩
-- fields: the class's table by its number ci
theorem gh_get {ref C : String} {T : u_T} {N ci index a t : Nat} {fs : List Value} {v : Value} (hK : gh_K G X cc nL own) (hd : decode cc pc = .ok (.getfield index, 3)) (hin : ∀ w ∈ u_ws C T N, w ∈ gTbl) (hc : vwCl[ci]? = some (C, T, N)) (he : g a = some (t, .inr (ci, fs))) (j : Nat) (hj : j < N) (hlink : Cond.fieldLink own index ref (T j).2.1 (T j).2.2.1 ∈ gTbl) (hsame : (T j).1 = ref) (hv : fs[j]? = some v) (kk : gh_W l G R X g k n lv (pc + 3) (v :: st)) : gh_W l G R X g k n lv pc (.ref a :: st) := by
  obtain ⟨p, e, s, m, args, below, meth, c, A, Q⟩ := X
  obtain ⟨hx, hb, hml, hown, hts, hC, hA⟩ := hK
  intro H locs ls hP hAa hS hl
  exact va_get (ws := [(a, .inr (ci, fs))]) hx hb hts hin hown hC.1 (fun i q hi => by
    have hz : i < 1 := (List.getElem?_eq_some_iff.mp hi).1
    rw [show i = 0 by omega] at hi
    cases hi
    exact hP a t _ he) 0 rfl hc j hj (hts _ hlink) (fun x h => by rw [← hsame]; exact h) hv hd (kk H locs ls hP hAa hS hl)
theorem gh_put {ref C : String} {T : u_T} {N ci index a t : Nat} {fs fs' : List Value} {v : Value} (hK : gh_K G X cc nL own) (hd : decode cc pc = .ok (.putfield index, 3)) (hin : ∀ w ∈ u_ws C T N, w ∈ gTbl) (ty0 : Nat → FieldType) (hty : ∀ i, i < N → parseFieldDescriptor (T i).2.2.1 = some (ty0 i)) (hnm : ∀ a, a < N → ∀ b, b < N → a ≠ b → (T a).2.1 ≠ (T b).2.1) (hc : vwCl[ci]? = some (C, T, N)) (he : g a = some (t, .inr (ci, fs))) (j : Nat) (hj : j < N) (hlink : Cond.fieldLink own index ref (T j).2.1 (T j).2.2.1 ∈ gTbl) (hsame : (T j).1 = ref) (hfin : (T j).2.2.2 = false) (hn : narrow (ty0 j) v = v) (hfit : fits (ty0 j) v = true) (hl0 : j < fs.length) (hfs : fs.set j v = fs') (kk : gh_W l G R X (gh_up g a t (.inr (ci, fs'))) k n lv (pc + 3) st) : gh_W l G R X g k n lv pc (v :: .ref a :: st) := by
  obtain ⟨p, e, s, m, args, below, meth, c, A, Q⟩ := X
  obtain ⟨hx, hb, hml, hown, hts, hC, hA⟩ := hK
  intro H locs ls hP hAa hS hl
  subst hfs
  obtain ⟨ws, w1, w2, w3, w4⟩ := gh_list hP hAa
  obtain ⟨q0, hq⟩ := w3 a t _ he
  refine va_put hx hb hts hin ty0 hty hnm hown hC.1 w1 w2 hS q0 hq hc j hj (hts _ hlink) (fun x h => by rw [← hsame]; exact h) hfin (hty j hj) hn hfit hl0 hd (fun H1 locs1 h1 h2 h3 => kk H1 locs1 ls (gh_set t w2 w3 hq h1) (fun b hb => ?_) h3 hl)
  by_cases hba : b = a
  · rw [hba]; exact hAa a (by rw [he]; exact fun z => by cases z)
  · rw [gh_un hba] at hb; exact hAa b hb
theorem gh_putF {C : String} {T : u_T} {N ci index a t : Nat} {fs fs' : List Value} {v : Value} (hK : gh_K G X cc nL own) (hI : gh_I X) (hd : decode cc pc = .ok (.putfield index, 3)) (hin : ∀ w ∈ u_ws C T N, w ∈ gTbl) (ty0 : Nat → FieldType) (hty : ∀ i, i < N → parseFieldDescriptor (T i).2.2.1 = some (ty0 i)) (hnm : ∀ a, a < N → ∀ b, b < N → a ≠ b → (T a).2.1 ≠ (T b).2.1) (hc : vwCl[ci]? = some (C, T, N)) (he : g a = some (t, .inr (ci, fs))) (j : Nat) (hj : j < N) (hlink : Cond.fieldLink own index own (T j).2.1 (T j).2.2.1 ∈ gTbl) (hsame : (T j).1 = own) (hfin : (T j).2.2.2 = true) (hn : narrow (ty0 j) v = v) (hfit : fits (ty0 j) v = true) (hl0 : j < fs.length) (hfs : fs.set j v = fs') (kk : gh_W l G R X (gh_up g a t (.inr (ci, fs'))) k n lv (pc + 3) st) : gh_W l G R X g k n lv pc (v :: .ref a :: st) := by
  obtain ⟨p, e, s, m, args, below, meth, c, A, Q⟩ := X
  obtain ⟨hx, hb, hml, hown, hts, hC, hA⟩ := hK
  intro H locs ls hP hAa hS hl
  subst hfs
  obtain ⟨ws, w1, w2, w3, w4⟩ := gh_list hP hAa
  obtain ⟨q0, hq⟩ := w3 a t _ he
  refine va_putF hx hb hts hin ty0 hty hnm hown hC.1 w1 w2 hS q0 hq hc j hj (hts _ hlink) (fun x h => by rw [← hsame]; exact h) hfin hI hsame (hty j hj) hn hfit hl0 hd (fun H1 locs1 h1 h2 h3 => kk H1 locs1 ls (gh_set t w2 w3 hq h1) (fun b hb => ?_) h3 hl)
  by_cases hba : b = a
  · rw [hba]; exact hAa a (by rw [he]; exact fun z => by cases z)
  · rw [gh_un hba] at hb; exact hAa b hb
end GHR
section GHR2
variable {l : Launch} {G : GG} {R : Room} {X : GX} {cc : ByteArray} {nL : Nat} {own : String} {g : GH} {k n pc : Nat} {lv : List (Option Value)} {st : List Value}
theorem gh_iald {a t N t0 : Nat} {cA : ClassId} {f : Nat → Int32} {i : Int32} (hK : gh_K G X cc nL own) (hd : decode cc pc = .ok (.iaload, 1)) (he : g a = some (t, .inl (cA, N, .inl f))) (ht : (gh_tys G)[t0]? = some (cA, .int)) (hin : vp_in i N) (kk : gh_W l G R X g k n lv (pc + 1) (.int (f i.toNatClampNeg) :: st)) : gh_W l G R X g k n lv pc (.int i :: .ref a :: st) := by
  obtain ⟨p, e, s, m, args, below, meth, c, A, Q⟩ := X
  obtain ⟨hx, hb, hml, hown, hts, hC, hA⟩ := hK
  intro H locs ls hP hAa hS hl
  exact va_iald (ws := [(a, .inl (cA, N, .inl f))]) hx hb hC.1 (fun i q hi => by
    have hz : i < 1 := (List.getElem?_eq_some_iff.mp hi).1
    rw [show i = 0 by omega] at hi
    cases hi
    exact hP a t _ he) 0 t0 rfl ht hin hd (kk H locs ls hP hAa hS hl)
theorem gh_ialdN {a t N t0 j : Nat} {cA : ClassId} {f : Nat → Int32} (hK : gh_K G X cc nL own) (hd : decode cc pc = .ok (.iaload, 1)) (he : g a = some (t, .inl (cA, N, .inl f))) (ht : (gh_tys G)[t0]? = some (cA, .int)) (hj : j < N) (hN : N < 2 ^ 31) (kk : gh_W l G R X g k n lv (pc + 1) (.int (f j) :: st)) : gh_W l G R X g k n lv pc (.int (nI j) :: .ref a :: st) := by
  refine gh_iald hK hd he ht (vp_in_nI hj hN) ?_
  rw [nI_clamp (by omega)]
  exact kk
theorem gh_cald {a t N t0 : Nat} {cA : ClassId} {f : Nat → Int32} {i : Int32} (hK : gh_K G X cc nL own) (hd : decode cc pc = .ok (.caload, 1)) (he : g a = some (t, .inl (cA, N, .inl f))) (ht : (gh_tys G)[t0]? = some (cA, .char)) (hin : vp_in i N) (kk : gh_W l G R X g k n lv (pc + 1) (.int (f i.toNatClampNeg) :: st)) : gh_W l G R X g k n lv pc (.int i :: .ref a :: st) := by
  obtain ⟨p, e, s, m, args, below, meth, c, A, Q⟩ := X
  obtain ⟨hx, hb, hml, hown, hts, hC, hA⟩ := hK
  intro H locs ls hP hAa hS hl
  exact va_cald (ws := [(a, .inl (cA, N, .inl f))]) hx hb hC.1 (fun i q hi => by
    have hz : i < 1 := (List.getElem?_eq_some_iff.mp hi).1
    rw [show i = 0 by omega] at hi
    cases hi
    exact hP a t _ he) 0 t0 rfl ht hin hd (kk H locs ls hP hAa hS hl)
theorem gh_caldN {a t N t0 j : Nat} {cA : ClassId} {f : Nat → Int32} (hK : gh_K G X cc nL own) (hd : decode cc pc = .ok (.caload, 1)) (he : g a = some (t, .inl (cA, N, .inl f))) (ht : (gh_tys G)[t0]? = some (cA, .char)) (hj : j < N) (hN : N < 2 ^ 31) (kk : gh_W l G R X g k n lv (pc + 1) (.int (f j) :: st)) : gh_W l G R X g k n lv pc (.int (nI j) :: .ref a :: st) := by
  refine gh_cald hK hd he ht (vp_in_nI hj hN) ?_
  rw [nI_clamp (by omega)]
  exact kk
theorem gh_bald {a t N t0 : Nat} {cA : ClassId} {f : Nat → Int32} {i : Int32} (hK : gh_K G X cc nL own) (hd : decode cc pc = .ok (.baload, 1)) (he : g a = some (t, .inl (cA, N, .inl f))) (ht : (gh_tys G)[t0]? = some (cA, .byte)) (hin : vp_in i N) (kk : gh_W l G R X g k n lv (pc + 1) (.int (f i.toNatClampNeg) :: st)) : gh_W l G R X g k n lv pc (.int i :: .ref a :: st) := by
  obtain ⟨p, e, s, m, args, below, meth, c, A, Q⟩ := X
  obtain ⟨hx, hb, hml, hown, hts, hC, hA⟩ := hK
  intro H locs ls hP hAa hS hl
  exact va_bald (ws := [(a, .inl (cA, N, .inl f))]) hx hb hC.1 (fun i q hi => by
    have hz : i < 1 := (List.getElem?_eq_some_iff.mp hi).1
    rw [show i = 0 by omega] at hi
    cases hi
    exact hP a t _ he) 0 t0 rfl ht hin hd (kk H locs ls hP hAa hS hl)
theorem gh_baldN {a t N t0 j : Nat} {cA : ClassId} {f : Nat → Int32} (hK : gh_K G X cc nL own) (hd : decode cc pc = .ok (.baload, 1)) (he : g a = some (t, .inl (cA, N, .inl f))) (ht : (gh_tys G)[t0]? = some (cA, .byte)) (hj : j < N) (hN : N < 2 ^ 31) (kk : gh_W l G R X g k n lv (pc + 1) (.int (f j) :: st)) : gh_W l G R X g k n lv pc (.int (nI j) :: .ref a :: st) := by
  refine gh_bald hK hd he ht (vp_in_nI hj hN) ?_
  rw [nI_clamp (by omega)]
  exact kk
theorem gh_aald {a t N t0 : Nat} {cA : ClassId} {C : String} {f : Nat → Option Nat} {i : Int32} (hK : gh_K G X cc nL own) (hd : decode cc pc = .ok (.aaload, 1)) (he : g a = some (t, .inl (cA, N, .inr (.inr (.inr (.inr f)))))) (ht : (gh_tys G)[t0]? = some (cA, .object C)) (hin : vp_in i N) (kk : gh_W l G R X g k n lv (pc + 1) (va_rf (f i.toNatClampNeg) :: st)) : gh_W l G R X g k n lv pc (.int i :: .ref a :: st) := by
  obtain ⟨p, e, s, m, args, below, meth, c, A, Q⟩ := X
  obtain ⟨hx, hb, hml, hown, hts, hC, hA⟩ := hK
  intro H locs ls hP hAa hS hl
  exact va_aldq (ws := [(a, .inl (cA, N, .inr (.inr (.inr (.inr f)))))]) hx hb hC.1 (fun i q hi => by
    have hz : i < 1 := (List.getElem?_eq_some_iff.mp hi).1
    rw [show i = 0 by omega] at hi
    cases hi
    exact hP a t _ he) 0 t0 rfl ht hin hd (kk H locs ls hP hAa hS hl)
theorem gh_alen {a t t0 : Nat} {cA : ClassId} {x : vp_A} {ty : FieldType} {v : Int32} (hK : gh_K G X cc nL own) (hd : decode cc pc = .ok (.arraylength, 1)) (he : g a = some (t, .inl (cA, x))) (ht : (gh_tys G)[t0]? = some (cA, ty)) (hv : nI x.1 = v) (kk : gh_W l G R X g k n lv (pc + 1) (.int v :: st)) : gh_W l G R X g k n lv pc (.ref a :: st) := by
  obtain ⟨p, e, s, m, args, below, meth, c, A, Q⟩ := X
  obtain ⟨hx, hb, hml, hown, hts, hC, hA⟩ := hK
  intro H locs ls hP hAa hS hl
  exact va_alen (ws := [(a, .inl (cA, x))]) hx hb hC.1 (fun i q hi => by
    have hz : i < 1 := (List.getElem?_eq_some_iff.mp hi).1
    rw [show i = 0 by omega] at hi
    cases hi
    exact hP a t _ he) 0 t0 rfl ht hv hd (kk H locs ls hP hAa hS hl)
theorem gh_iast {a t N t0 : Nat} {cA : ClassId} {f : Nat → Int32} {i x : Int32} (hK : gh_K G X cc nL own) (hd : decode cc pc = .ok (.iastore, 1)) (he : g a = some (t, .inl (cA, N, .inl f))) (ht : (gh_tys G)[t0]? = some (cA, .int)) (hin : vp_in i N) (kk : gh_W l G R X (gh_up g a t (.inl (cA, N, .inl (upd f i.toNatClampNeg x)))) k n lv (pc + 1) st) : gh_W l G R X g k n lv pc (.int x :: .int i :: .ref a :: st) := by
  obtain ⟨p, e, s, m, args, below, meth, c, A, Q⟩ := X
  obtain ⟨hx, hb, hml, hown, hts, hC, hA⟩ := hK
  intro H locs ls hP hAa hS hl
  obtain ⟨ws, w1, w2, w3, w4⟩ := gh_list hP hAa
  obtain ⟨q0, hq⟩ := w3 a t _ he
  refine va_iast hx hb hC.1 w1 w2 hS q0 t0 hq ht hin hd (fun H1 locs1 h1 h2 h3 => kk H1 locs1 ls (gh_set t w2 w3 hq h1) (fun b hb => ?_) h3 hl)
  by_cases hba : b = a
  · rw [hba]; exact hAa a (by rw [he]; exact fun z => by cases z)
  · rw [gh_un hba] at hb; exact hAa b hb
theorem gh_cast {a t N t0 : Nat} {cA : ClassId} {f : Nat → Int32} {i x : Int32} (hK : gh_K G X cc nL own) (hd : decode cc pc = .ok (.castore, 1)) (he : g a = some (t, .inl (cA, N, .inl f))) (ht : (gh_tys G)[t0]? = some (cA, .char)) (hin : vp_in i N) (kk : gh_W l G R X (gh_up g a t (.inl (cA, N, .inl (upd f i.toNatClampNeg (vp_nar .char x))))) k n lv (pc + 1) st) : gh_W l G R X g k n lv pc (.int x :: .int i :: .ref a :: st) := by
  obtain ⟨p, e, s, m, args, below, meth, c, A, Q⟩ := X
  obtain ⟨hx, hb, hml, hown, hts, hC, hA⟩ := hK
  intro H locs ls hP hAa hS hl
  obtain ⟨ws, w1, w2, w3, w4⟩ := gh_list hP hAa
  obtain ⟨q0, hq⟩ := w3 a t _ he
  refine va_cast hx hb hC.1 w1 w2 hS q0 t0 hq ht hin hd (fun H1 locs1 h1 h2 h3 => kk H1 locs1 ls (gh_set t w2 w3 hq h1) (fun b hb => ?_) h3 hl)
  by_cases hba : b = a
  · rw [hba]; exact hAa a (by rw [he]; exact fun z => by cases z)
  · rw [gh_un hba] at hb; exact hAa b hb
theorem gh_castN {a t N t0 j x : Nat} {cA : ClassId} {f : Nat → Int32} (hK : gh_K G X cc nL own) (hd : decode cc pc = .ok (.castore, 1)) (he : g a = some (t, .inl (cA, N, .inl f))) (ht : (gh_tys G)[t0]? = some (cA, .char)) (hj : j < N) (hN : N < 2 ^ 31) (hx16 : x < 65536) (kk : gh_W l G R X (gh_up g a t (.inl (cA, N, .inl (upd f j (nI x))))) k n lv (pc + 1) st) : gh_W l G R X g k n lv pc (.int (nI x) :: .int (nI j) :: .ref a :: st) := by
  refine gh_cast hK hd he ht (vp_in_nI hj hN) ?_
  have e : vp_nar .char (nI x) = nI x := by
    unfold vp_nar
    rw [(pk_charN hx16).1]
  rw [nI_clamp (by omega), e]
  exact kk
theorem gh_iastN {a t N t0 j : Nat} {x : Int32} {cA : ClassId} {f : Nat → Int32} (hK : gh_K G X cc nL own) (hd : decode cc pc = .ok (.iastore, 1)) (he : g a = some (t, .inl (cA, N, .inl f))) (ht : (gh_tys G)[t0]? = some (cA, .int)) (hj : j < N) (hN : N < 2 ^ 31) (kk : gh_W l G R X (gh_up g a t (.inl (cA, N, .inl (upd f j x)))) k n lv (pc + 1) st) : gh_W l G R X g k n lv pc (.int x :: .int (nI j) :: .ref a :: st) := by
  refine gh_iast hK hd he ht (vp_in_nI hj hN) ?_
  rw [nI_clamp (by omega)]
  exact kk
theorem gh_new {C : String} {T : u_T} {N ci index : Nat} {fs : List Value} (t : Nat) (hK : gh_K G X cc nL own) (hd : decode cc pc = .ok (.new index, 3)) (hin : ∀ w ∈ u_ws C T N, w ∈ gTbl) (ty : Nat → FieldType) (hty : ∀ i, i < N → parseFieldDescriptor (T i).2.2.1 = some (ty i)) (hc : vwCl[ci]? = some (C, T, N)) (hcl : Cond.classLink own index C ∈ gTbl) (hinst : Cond.instantiable C N ∈ gTbl) (hini : Cond.initialized C ∈ gTbl) (hfs : ∀ j, j < N → defaultValue (ty j) = vp_V fs j) (hcells : k + 1 ≤ R.cells) (hslots : n + N ≤ R.slots) (kk : ∀ a : Nat, g a = none → gh_W l G R X (gh_up g a t (.inr (ci, fs))) (k + 1) (n + N) lv (pc + 3) (.ref a :: st)) : gh_W l G R X g k n lv pc st := by
  obtain ⟨p, e, s, m, args, below, meth, c, A, Q⟩ := X
  obtain ⟨hx, hb, hml, hown, hts, hC, hA⟩ := hK
  intro H locs ls hP hAa hS hl
  obtain ⟨ws, w1, w2, w3, w4⟩ := gh_list hP hAa
  refine va_new hx hb hts hin ty hty hown (hts _ hcl) (hts _ hinst) (hts _ hini) hC.1 w1 w2 hS hA hc hfs hcells hslots hd (fun q H1 h1 h2 h3 => ?_)
  obtain ⟨z1, z2⟩ := gh_push t w3 h1 h2
  refine kk q z1 H1 locs ls z2 (fun b hb => ?_) h3 hl
  by_cases hba : b = q
  · rw [hba]
    exact h2.2 ws.length (q, .inr (ci, fs)) (by rw [List.getElem?_append_right (Nat.le_refl _), Nat.sub_self]; rfl)
  · rw [gh_un hba] at hb; exact hAa b hb
end GHR2
end
section
section GHR3
variable {l : Launch} {G : GG} {R : Room} {X : GX} {cc : ByteArray} {nL : Nat} {own : String} {g : GH} {k n pc : Nat} {lv : List (Option Value)} {st : List Value}
theorem gh_newc {N t0 : Nat} {cA : ClassId} {x : Int32} (t : Nat) (hK : gh_K G X cc nL own) (hd : decode cc pc = .ok (.newarray .char, 2)) (ht : (gh_tys G)[t0]? = some (cA, .char)) (hw : Cond.arrayClass .char ∈ gTbl) (hxN : x = nI N) (hN : N < 65536) (hcells : k + 1 ≤ R.cells) (hslots : n + N ≤ R.slots) (kk : ∀ a : Nat, g a = none → gh_W l G R X (gh_up g a t (.inl (cA, N, .inl (fun _ => 0)))) (k + 1) (n + N) lv (pc + 2) (.ref a :: st)) : gh_W l G R X g k n lv pc (.int x :: st) := by
  obtain ⟨p, e, s, m, args, below, meth, c, A, Q⟩ := X
  obtain ⟨hx, hb, hml, hown, hts, hC, hA⟩ := hK
  intro H locs ls hP hAa hS hl
  subst hxN
  obtain ⟨ws, w1, w2, w3, w4⟩ := gh_list hP hAa
  have hby : N * componentBytes .char ≤ 536870912 := by
    have h8 : componentBytes .char ≤ 8 := by decide
    exact Nat.le_trans (Nat.mul_le_mul (Nat.le_of_lt hN) h8) (by decide)
  refine va_newa (atype := .char) (N' := N) (a0 := (N, .inl (fun _ => 0))) hx hb (hts _ hw) (ty := .char) rfl hC.1 w1 w2 hS hA (fun cA => rfl) (nI_pos (by omega)) (nI_clamp (by omega)) hby hcells hslots hd (fun q cB H1 hK1 h1 h2 h3 => ?_)
  have e : cB = cA := by
    have z1 := (hK1.2 (gh_tys G).length (cB, .char) (by rw [List.getElem?_append_right (Nat.le_refl _), Nat.sub_self]; rfl)).2
    have z2 := (hC.1.2 t0 (cA, .char) ht).2
    exact Option.some.inj (z1.symm.trans z2)
  subst e
  obtain ⟨z1, z2⟩ := gh_push t w3 h1 h2
  refine kk q z1 H1 locs ls z2 (fun b hb => ?_) h3 hl
  by_cases hba : b = q
  · rw [hba]
    exact h2.2 ws.length (q, _) (by rw [List.getElem?_append_right (Nat.le_refl _), Nat.sub_self]; rfl)
  · rw [gh_un hba] at hb; exact hAa b hb
theorem gh_newi {N t0 : Nat} {cA : ClassId} {x : Int32} (t : Nat) (hK : gh_K G X cc nL own) (hd : decode cc pc = .ok (.newarray .int, 2)) (ht : (gh_tys G)[t0]? = some (cA, .int)) (hw : Cond.arrayClass .int ∈ gTbl) (hxN : x = nI N) (hN : N < 65536) (hcells : k + 1 ≤ R.cells) (hslots : n + N ≤ R.slots) (kk : ∀ a : Nat, g a = none → gh_W l G R X (gh_up g a t (.inl (cA, N, .inl (fun _ => 0)))) (k + 1) (n + N) lv (pc + 2) (.ref a :: st)) : gh_W l G R X g k n lv pc (.int x :: st) := by
  obtain ⟨p, e, s, m, args, below, meth, c, A, Q⟩ := X
  obtain ⟨hx, hb, hml, hown, hts, hC, hA⟩ := hK
  intro H locs ls hP hAa hS hl
  subst hxN
  obtain ⟨ws, w1, w2, w3, w4⟩ := gh_list hP hAa
  have hby : N * componentBytes .int ≤ 536870912 := by
    have h8 : componentBytes .int ≤ 8 := by decide
    exact Nat.le_trans (Nat.mul_le_mul (Nat.le_of_lt hN) h8) (by decide)
  refine va_newa (atype := .int) (N' := N) (a0 := (N, .inl (fun _ => 0))) hx hb (hts _ hw) (ty := .int) rfl hC.1 w1 w2 hS hA (fun cA => rfl) (nI_pos (by omega)) (nI_clamp (by omega)) hby hcells hslots hd (fun q cB H1 hK1 h1 h2 h3 => ?_)
  have e : cB = cA := by
    have z1 := (hK1.2 (gh_tys G).length (cB, .int) (by rw [List.getElem?_append_right (Nat.le_refl _), Nat.sub_self]; rfl)).2
    have z2 := (hC.1.2 t0 (cA, .int) ht).2
    exact Option.some.inj (z1.symm.trans z2)
  subst e
  obtain ⟨z1, z2⟩ := gh_push t w3 h1 h2
  refine kk q z1 H1 locs ls z2 (fun b hb => ?_) h3 hl
  by_cases hba : b = q
  · rw [hba]
    exact h2.2 ws.length (q, _) (by rw [List.getElem?_append_right (Nat.le_refl _), Nat.sub_self]; rfl)
  · rw [gh_un hba] at hb; exact hAa b hb
end GHR3
/-! contracts -/
def gh_ws (y : MethodName) (cc : ByteArray) (nL : Nat) (ret : Option FieldType) : List Cond := .code y cc nL ret :: gTbl
def gh_Q (G : GG) (g0 : GH) (sz : Nat) (Post : Option Value → GH → Prop) : Array Value → State → Outcome → State → Prop := fun _ st oc t => (∃ (v : Option Value) (g' : GH), oc = .returned v ∧ Post v g' ∧ gh_P G.1 g' t.heap ∧ ∀ a, g' a ≠ none → gh_A g0 sz a) ∧ va_F (gh_A g0 sz) st t
def gMet (l : Launch) (G : GG) (y : MethodName) (cc : ByteArray) (nL : Nat) (ret : Option FieldType) (rm : Room) (av : List Value) (g : GH) (Post : Option Value → GH → Prop) : Prop := ∀ sz : Nat, Met l y (gh_ws y cc nL ret) rm (va_Pc av (fun U => U.heap.size = sz ∧ gh_P G.1 g U.heap ∧ gh_C G (gh_A g sz) U U.heap)) (gh_Q G g sz Post) rm.cells rm.slots (gh_A g sz)
/-- what a method's own walk ends in -/
def gh_E (G : GG) (X : GX) (ret : Option FieldType) (mc ms : Nat) (Post : Option Value → GH → Prop) : Prop :=
  match X with
  | (_, _, s, _, args, below, meth, _, A, Q) => meth.sig.returnType = ret ∧ meth.locks = false ∧ ∃ g0 : GH, A = gh_A g0 s.heap.size ∧ Q = MQ below (gh_Q G g0 s.heap.size Post) args s mc ms A
/-- the words of a method: its code, its class, how many arguments -/
def gh_Y (y : MethodName) (cc : ByteArray) (nL : Nat) (ret : Option FieldType) (na : Nat) : Prop := Cond.code y cc nL ret ∈ gTbl ∧ Cond.initialized y.cls ∈ gTbl ∧ y.cls ≠ "java/lang/invoke/MethodHandle" ∧ y.cls ≠ "java/lang/invoke/VarHandle" ∧ (parseMethodDescriptor y.desc).map (fun d => d.parameters.length) = some na
theorem gMet.of {l : Launch} {G : GG} {y : MethodName} {cc : ByteArray} {nL : Nat} {ret : Option FieldType} {rm : Room} {av : List Value} {g : GH} {Post : Option Value → GH → Prop} (lv0 : List (Option Value)) (hy : plainFor y = true) (hav : av.all (fun w => w.category == 1) = true) (hn : av.length ≤ nL) (hlv : av.map some ++ List.replicate (nL - av.length) none = lv0)
    (h : ∀ X : GX, gh_K G X cc nL y.cls → (y.name = "<init>" → gh_I X) → gh_E G X ret rm.cells rm.slots Post → gh_W l G rm X g 0 0 lv0 0 []) : gMet l G y cc nL ret rm av g Post := by
  intro sz
  refine va_MetF (cc := cc) (maxL := nL) (ret := ret) hy rfl ?_
  intro p e s m args below meth c s₁ B hml hv
  obtain ⟨rfl, hsz, hP, hC⟩ := hv
  subst hsz
  have hts := atoms_spec (ws := gh_ws y cc nL ret) B.pre
  have hown : s.vm.findClass y.cls = some m.cls := findClass_of_methodNamed B.named
  rw [lg_entry_eq]
  exact h (p, e, s, m, av.toArray, below, meth, c, gh_A g s.heap.size, MQ below (gh_Q G g s.heap.size Post) av.toArray s rm.cells rm.slots (gh_A g s.heap.size)) ⟨B.exec, B.bytes, hml, hown, fun w hw => hts w (List.mem_cons_of_mem _ hw), hC, fun q hq => Or.inr hq⟩ (fun hi => by
    have := (name_of_methodNamed B.named B.method).1
    rw [hi] at this
    exact this) ⟨B.returns, B.notSynchronized, g, rfl, rfl⟩ s.heap [] _ hP (fun a ha => Or.inl ha) va_S.rf (gh_entry (fun w hw => by simpa using List.all_eq_true.mp hav w hw) hn hlv)
section GHR4
variable {l : Launch} {G : GG} {R : Room} {X : GX} {cc : ByteArray} {nL : Nat} {own : String} {g : GH} {k n pc mc ms : Nat} {lv : List (Option Value)} {st : List Value} {Post : Option Value → GH → Prop} {ret : Option FieldType}

theorem gh_iret {v : Int32} (hK : gh_K G X cc nL own) (hE : gh_E G X (some .int) mc ms Post) (hd : decode cc pc = .ok (.ireturn, 1)) (hk : k ≤ mc) (hn : n ≤ ms) (hp : Post (some (.int v)) g) : gh_W l G R X g k n lv pc [.int v] := by
  obtain ⟨p, e, s, m, args, below, meth, c, A, Q⟩ := X
  obtain ⟨hx, hb, hml, hown, hts, hC, hA⟩ := hK
  intro H locs ls hP hAa hS hl
  obtain ⟨hr, hlk, g0, rfl, rfl⟩ := hE
  refine W.widen hk hn ?_
  exact W.iret hx hb hr (fun t ht hW => ⟨⟨(some (.int v)), g, rfl, hp, by rw [ht]; exact hP, hAa⟩, hS.F ht⟩) hS.2.2 hd hlk
theorem gh_zret {v : Int32} {ty : FieldType} (hnar : narrow ty (.int v) = .int v) (hK : gh_K G X cc nL own) (hE : gh_E G X (some ty) mc ms Post) (hd : decode cc pc = .ok (.ireturn, 1)) (hk : k ≤ mc) (hn : n ≤ ms) (hp : Post (some (.int v)) g) : gh_W l G R X g k n lv pc [.int v] := by
  obtain ⟨p, e, s, m, args, below, meth, c, A, Q⟩ := X
  obtain ⟨hx, hb, hml, hown, hts, hC, hA⟩ := hK
  intro H locs ls hP hAa hS hl
  obtain ⟨hr, hlk, g0, rfl, rfl⟩ := hE
  refine W.widen hk hn ?_
  exact W.zret hx hb hr hnar (fun t ht hW => ⟨⟨(some (.int v)), g, rfl, hp, by rw [ht]; exact hP, hAa⟩, hS.F ht⟩) hS.2.2 hd hlk
theorem gh_vret (hK : gh_K G X cc nL own) (hE : gh_E G X none mc ms Post) (hd : decode cc pc = .ok (.return_, 1)) (hk : k ≤ mc) (hn : n ≤ ms) (hp : Post none g) : gh_W l G R X g k n lv pc [] := by
  obtain ⟨p, e, s, m, args, below, meth, c, A, Q⟩ := X
  obtain ⟨hx, hb, hml, hown, hts, hC, hA⟩ := hK
  intro H locs ls hP hAa hS hl
  obtain ⟨hr, hlk, g0, rfl, rfl⟩ := hE
  refine W.widen hk hn ?_
  exact W.vret hx hb hr (fun t ht hW => ⟨⟨none, g, rfl, hp, by rw [ht]; exact hP, hAa⟩, hS.F ht⟩) hS.2.2 hd hlk
theorem gh_aret {v : Value} {ty : FieldType} (hty : (∃ n, ty = .object n) ∨ ∃ t, ty = .array t) (hv : v = .null ∨ ∃ a, v = .ref a) (hK : gh_K G X cc nL own) (hE : gh_E G X (some ty) mc ms Post) (hd : decode cc pc = .ok (.areturn, 1)) (hk : k ≤ mc) (hn : n ≤ ms) (hp : Post (some v) g) : gh_W l G R X g k n lv pc [v] := by
  obtain ⟨p, e, s, m, args, below, meth, c, A, Q⟩ := X
  obtain ⟨hx, hb, hml, hown, hts, hC, hA⟩ := hK
  intro H locs ls hP hAa hS hl
  obtain ⟨hr, hlk, g0, rfl, rfl⟩ := hE
  refine W.widen hk hn ?_
  exact W.aret hx hb hr hty hv (fun t ht hW => ⟨⟨(some v), g, rfl, hp, by rw [ht]; exact hP, hAa⟩, hS.F ht⟩) hS.2.2 hd hlk
/-- behind a call -/
theorem gh_back {p : Program} {e : Env} {s : State} {m : MethodId} {args : Array Value} {below : List Frame} {meth : Method} {c : Code} {H : Heap} {locs : List Loc} {ls : Array Slot} {Q : State → Prop} {A : Nat → Prop} {rest st0 : List Value} {a : Array Value} (hP : gh_P G.1 g H) (hAa : ∀ a, g a ≠ none → A a) (hS : va_S A s.heap H locs) (hl : gh_L ls lv) (hA : ∀ q, s.heap.size ≤ q → A q)
    (hr : va_Run p l e R s m args below meth c H locs k n mc ms (F0 m pc ls st0) rest (gh_Q G g H.size Post a) (gh_A g H.size))
    (kk : ∀ (v : Option Value) (g' : GH), Post v g' → gh_W l G R (p, e, s, m, args, below, meth, c, A, Q) g' (k + mc) (n + ms) lv (pc + 3) (v.toList ++ rest)) : W p l e R s m args below meth c H locs k n Q (F0 m pc ls st0) := by
  have hF : ∀ q, gh_A g H.size q → A q := fun q h => by
    rcases h with h | h
    · exact hAa q h
    · exact hA q (Nat.le_trans hS.1 h)
  intro T hT X
  obtain ⟨v, st₀, t, T', L, h0, X', hL, e1, e2, ⟨⟨v', g', hv, hp, hP', hA'⟩, hz, hk⟩, st⟩ := hr T hT X
  cases hv
  rw [h0] at hz hk
  obtain ⟨t2, a1, b1⟩ := kk v g' hp T'.heap (locs ++ L) ls (by rw [e1]; exact hP') (fun a ha => hF a (hA' a ha))
    ⟨Nat.le_trans hS.1 (by rw [e1]; exact hz), fun q h1 h2 => by rw [e1, hk q (Nat.lt_of_lt_of_le h1 hS.1) (fun z => h2 (hF q z))]; exact hS.2.1 q h1 h2, fun q hq => by
      rcases List.mem_append.mp hq with h | h
      · exact hS.2.2 q h
      · exact hF _ (hL q h)⟩ hl T' rfl X'
  exact ⟨t2, st t2 a1, b1⟩
theorem gh_good {args : Array Value} {s : State} {y : MethodName} {cy : ByteArray} {ny na : Nat} {ry : Option FieldType} {rm : Room} {idx : Nat} (hts : ∀ w ∈ gTbl, w.before args s = true) (hY : gh_Y y cy ny ry na) (hl : Cond.methodLink own idx y ∈ gTbl) (hR : rm.frames + 1 ≤ R.frames ∧ 8 + (ny + 11) + rm.locals ≤ R.locals) : CallB R s args own idx y cy ny ry (gh_ws y cy ny ry) rm rm.cells rm.slots na :=
  callB_of na hts (fun w hw => by
    rcases List.mem_cons.mp hw with h | h
    · rw [h]; exact ⟨hY.1, gTbl_good _ hY.1⟩
    · exact ⟨h, gTbl_good _ h⟩) rfl rfl rfl (hts _ hY.2.1) (hts _ hl) hY.2.2 hR
theorem gh_pre {s : State} {H : Heap} {A : Nat → Prop} {locs : List Loc} (hP : gh_P G.1 g H) (hAa : ∀ a, g a ≠ none → A a) (hS : va_S A s.heap H locs) (hA : ∀ q, s.heap.size ≤ q → A q) (hC : gh_C G A s s.heap) (As : List Value) : PreS s H (va_Pc As (fun U => U.heap.size = H.size ∧ gh_P G.1 g U.heap ∧ gh_C G (gh_A g H.size) U U.heap)) As := by
  refine ⟨fun a U f mk q => ?_, fun U hU hW => ?_⟩
  · obtain ⟨q1, q2, q3, q4⟩ := q
    exact ⟨q1, q2, q3, gh_C.same (u := U) (U := U.calling f mk a) rfl q4⟩
  · refine ⟨rfl, by rw [hU], by rw [hU]; exact hP, ?_⟩
    rw [hU]
    exact ((gh_C.kept hS.2.1 hC).narrow (fun q h => by
      rcases h with h | h
      · exact hAa q h
      · exact hA q (Nat.le_trans hS.1 h))).warm hW

theorem gh_callV {y : MethodName} {cy : ByteArray} {ny na index : Nat} {ry : Option FieldType} {rm : Room} {rest : List Value} {b t ci : Nat} {fs : List Value} {T : u_T} {N : Nat} (As : List Value) (hK : gh_K G X cc nL own) (hM : gMet l G y cy ny ry rm (.ref b :: As) g Post) (hY : gh_Y y cy ny ry na) (hV : Cond.instanceMethod y ∈ gTbl ∧ Cond.selects y.cls y y ∈ gTbl) (hlk : Cond.methodLink own index y ∈ gTbl) (hb0 : g b = some (t, .inr (ci, fs))) (hc : vwCl[ci]? = some (y.cls, T, N)) (hst : st = As.reverse ++ .ref b :: rest) (hd : decode cc pc = .ok (.invokevirtual index, 3)) (hna : As.length = na) (hlv : lv.length = nL) (hrest : (rest.map fun v => v.category).sum ≤ 8) (hR : rm.frames + 1 ≤ R.frames ∧ 8 + (ny + 11) + rm.locals ≤ R.locals) (hf : k + rm.cells ≤ R.cells ∧ n + rm.slots ≤ R.slots)
    (kk : ∀ (v : Option Value) (g' : GH), Post v g' → gh_W l G R X g' (k + rm.cells) (n + rm.slots) lv (pc + 3) (v.toList ++ rest)) : gh_W l G R X g k n lv pc st := by
  obtain ⟨p, e, s, m, args, below, meth, c, A, Q⟩ := X
  obtain ⟨hx, hb, hml, hown, hts, hC, hA⟩ := hK
  intro H locs ls hP hAa hS hl
  obtain ⟨hbl, hpre⟩ := gh_pre hP hAa hS hA hC (.ref b :: As)
  refine gh_back hP hAa hS hl hA (a := (Value.ref b :: As).toArray) (va_runV (C := y.cls) (b := b) (As := As) (rest := rest) ⟨hx, hb, hml, hown, hts⟩ (hM H.size) ⟨gh_good hts hY hlk hR, hts _ hV.1, hts _ hV.2⟩ ⟨hbl, ?_, hpre⟩ rfl hna (by rw [← hlv]; exact hl.1) hst (lv_room hrest) hd hf) kk
  exact va_recv (ws := [(b, .inr (ci, fs))]) hC.1 (fun i q hi => by
    have hz : i < 1 := (List.getElem?_eq_some_iff.mp hi).1
    rw [show i = 0 by omega] at hi
    cases hi
    exact hP b t _ hb0) (ci := ci) (q := (y.cls, T, N)) (q0 := 0) hc rfl
theorem gh_callI {y : MethodName} {cy : ByteArray} {ny na index : Nat} {rm : Room} {rest : List Value} {b : Nat} (As : List Value) (hK : gh_K G X cc nL own) (hM : gMet l G y cy ny none rm (.ref b :: As) g Post) (hY : gh_Y y cy ny none na) (hi : y.name = "<init>") (hV : Cond.instanceMethod y ∈ gTbl) (hlk : Cond.methodLink own index y ∈ gTbl) (hst : st = As.reverse ++ .ref b :: rest) (hd : decode cc pc = .ok (.invokespecial index, 3)) (hna : As.length = na) (hlv : lv.length = nL) (hrest : (rest.map fun v => v.category).sum ≤ 8) (hR : rm.frames + 1 ≤ R.frames ∧ 8 + (ny + 11) + rm.locals ≤ R.locals) (hf : k + rm.cells ≤ R.cells ∧ n + rm.slots ≤ R.slots)
    (kk : ∀ (v : Option Value) (g' : GH), Post v g' → gh_W l G R X g' (k + rm.cells) (n + rm.slots) lv (pc + 3) (v.toList ++ rest)) : gh_W l G R X g k n lv pc st := by
  obtain ⟨p, e, s, m, args, below, meth, c, A, Q⟩ := X
  obtain ⟨hx, hb, hml, hown, hts, hC, hA⟩ := hK
  intro H locs ls hP hAa hS hl
  exact gh_back hP hAa hS hl hA (a := (Value.ref b :: As).toArray) (va_runI (b := b) (As := As) (rest := rest) ⟨hx, hb, hml, hown, hts⟩ (hM H.size) ⟨gh_good hts hY hlk hR, hi, hts _ hV⟩ (gh_pre hP hAa hS hA hC (.ref b :: As)) rfl hna (by rw [← hlv]; exact hl.1) hst (lv_room hrest) hd hf) kk
theorem gh_callS {y : MethodName} {cy : ByteArray} {ny na index : Nat} {ry : Option FieldType} {rm : Room} {rest : List Value} (As : List Value) (hK : gh_K G X cc nL own) (hM : gMet l G y cy ny ry rm As g Post) (hY : gh_Y y cy ny ry na) (hV : Cond.static y ∈ gTbl) (hlk : Cond.methodLink own index y ∈ gTbl) (hst : st = As.reverse ++ rest) (hd : decode cc pc = .ok (.invokestatic index, 3)) (hna : As.length = na) (hlv : lv.length = nL) (hrest : (rest.map fun v => v.category).sum ≤ 8) (hR : rm.frames + 1 ≤ R.frames ∧ 8 + (ny + 11) + rm.locals ≤ R.locals) (hf : k + rm.cells ≤ R.cells ∧ n + rm.slots ≤ R.slots)
    (kk : ∀ (v : Option Value) (g' : GH), Post v g' → gh_W l G R X g' (k + rm.cells) (n + rm.slots) lv (pc + 3) (v.toList ++ rest)) : gh_W l G R X g k n lv pc st := by
  obtain ⟨p, e, s, m, args, below, meth, c, A, Q⟩ := X
  obtain ⟨hx, hb, hml, hown, hts, hC, hA⟩ := hK
  intro H locs ls hP hAa hS hl
  exact gh_back hP hAa hS hl hA (a := As.toArray) (va_runS (As := As) (rest := rest) ⟨hx, hb, hml, hown, hts⟩ (hM H.size) ⟨gh_good hts hY hlk hR, hts _ hV⟩ (gh_pre hP hAa hS hA hC As) rfl hna (by rw [← hlv]; exact hl.1) hst (lv_room hrest) hd hf) kk
theorem gh_objInit {a index : Nat} (hK : gh_K G X cc nL own) (hd : decode cc pc = .ok (.invokespecial index, 3)) (hlk : Cond.methodLink own index objectInit ∈ gTbl) (hin : Cond.instanceMethod objectInit ∈ gTbl) (hcode : Cond.code objectInit ⟨#[0xb1]⟩ 1 none ∈ gTbl) (hlv : lv.length = nL) (hR : 1 ≤ R.frames) (hR2 : (st.map fun v => v.category).sum + 12 ≤ R.locals) (kk : gh_W l G R X g k n lv (pc + 3) st) : gh_W l G R X g k n lv pc (.ref a :: st) := by
  obtain ⟨p, e, s, m, args, below, meth, c, A, Q⟩ := X
  obtain ⟨hx, hb, hml, hown, hts, hC, hA⟩ := hK
  intro H locs ls hP hAa hS hl
  refine W.objInit hx hb hown (hts _ hlk) (hts _ hin) (hts _ hcode) rfl (by rw [hml, ← hlv]; exact hl.1) rfl hd hR (by show 2 * 0 + _ + 12 ≤ _; omega) ?_
  exact W.eq (g2 := F0 m (pc + 3) ls st) rfl (kk H locs ls hP hAa hS hl)
end GHR4
section GHR5
variable {l : Launch} {G : GG} {R : Room} {X : GX} {cc : ByteArray} {nL : Nat} {own : String} {g : GH} {k n pc : Nat} {lv : List (Option Value)} {st : List Value}
theorem gh_icmp_eqN {a b : Nat} {off : Int} {tgt : Nat} (hK : gh_K G X cc nL own) (hd : decode cc pc = .ok (.if_icmp .eq off, 3)) (ht : (pc : Int) + off = (tgt : Int)) (ha : a < 2 ^ 31) (hb : b < 2 ^ 31) (kt : a = b → gh_W l G R X g k n lv tgt st) (kf : a ≠ b → gh_W l G R X g k n lv (pc + 3) st) : gh_W l G R X g k n lv pc (.int (nI b) :: .int (nI a) :: st) :=
  gh_icmp_eq hK hd ht (fun z => kt ((nI_eq ha hb).mp z)) (fun z => kf (fun h => z ((nI_eq ha hb).mpr h)))
theorem gh_icmp_neN {a b : Nat} {off : Int} {tgt : Nat} (hK : gh_K G X cc nL own) (hd : decode cc pc = .ok (.if_icmp .ne off, 3)) (ht : (pc : Int) + off = (tgt : Int)) (ha : a < 2 ^ 31) (hb : b < 2 ^ 31) (kt : a ≠ b → gh_W l G R X g k n lv tgt st) (kf : a = b → gh_W l G R X g k n lv (pc + 3) st) : gh_W l G R X g k n lv pc (.int (nI b) :: .int (nI a) :: st) :=
  gh_icmp_ne hK hd ht (fun z => kt (fun h => z ((nI_eq ha hb).mpr h))) (fun z => kf ((nI_eq ha hb).mp z))
theorem gh_icmp_ltN {a b : Nat} {off : Int} {tgt : Nat} (hK : gh_K G X cc nL own) (hd : decode cc pc = .ok (.if_icmp .lt off, 3)) (ht : (pc : Int) + off = (tgt : Int)) (ha : a < 2 ^ 31) (hb : b < 2 ^ 31) (kt : a < b → gh_W l G R X g k n lv tgt st) (kf : b ≤ a → gh_W l G R X g k n lv (pc + 3) st) : gh_W l G R X g k n lv pc (.int (nI b) :: .int (nI a) :: st) :=
  gh_icmp_lt hK hd ht (fun z => kt ((nI_ltI ha hb).mp z)) (fun z => kf (Nat.not_lt.mp fun h => z ((nI_ltI ha hb).mpr h)))
theorem gh_icmp_geN {a b : Nat} {off : Int} {tgt : Nat} (hK : gh_K G X cc nL own) (hd : decode cc pc = .ok (.if_icmp .ge off, 3)) (ht : (pc : Int) + off = (tgt : Int)) (ha : a < 2 ^ 31) (hb : b < 2 ^ 31) (kt : b ≤ a → gh_W l G R X g k n lv tgt st) (kf : a < b → gh_W l G R X g k n lv (pc + 3) st) : gh_W l G R X g k n lv pc (.int (nI b) :: .int (nI a) :: st) :=
  gh_icmp_ge hK hd ht (fun z => kt ((nI_leI hb ha).mp z)) (fun z => kf (Nat.not_le.mp fun h => z ((nI_leI hb ha).mpr h)))
theorem gh_icmp_gtN {a b : Nat} {off : Int} {tgt : Nat} (hK : gh_K G X cc nL own) (hd : decode cc pc = .ok (.if_icmp .gt off, 3)) (ht : (pc : Int) + off = (tgt : Int)) (ha : a < 2 ^ 31) (hb : b < 2 ^ 31) (kt : b < a → gh_W l G R X g k n lv tgt st) (kf : a ≤ b → gh_W l G R X g k n lv (pc + 3) st) : gh_W l G R X g k n lv pc (.int (nI b) :: .int (nI a) :: st) :=
  gh_icmp_gt hK hd ht (fun z => kt ((nI_ltI hb ha).mp z)) (fun z => kf (Nat.not_lt.mp fun h => z ((nI_ltI hb ha).mpr h)))
theorem gh_icmp_leN {a b : Nat} {off : Int} {tgt : Nat} (hK : gh_K G X cc nL own) (hd : decode cc pc = .ok (.if_icmp .le off, 3)) (ht : (pc : Int) + off = (tgt : Int)) (ha : a < 2 ^ 31) (hb : b < 2 ^ 31) (kt : a ≤ b → gh_W l G R X g k n lv tgt st) (kf : b < a → gh_W l G R X g k n lv (pc + 3) st) : gh_W l G R X g k n lv pc (.int (nI b) :: .int (nI a) :: st) :=
  gh_icmp_le hK hd ht (fun z => kt ((nI_leI ha hb).mp z)) (fun z => kf (Nat.not_le.mp fun h => z ((nI_leI ha hb).mpr h)))
theorem gh_if_eqN {a : Nat} {off : Int} {tgt : Nat} (hK : gh_K G X cc nL own) (hd : decode cc pc = .ok (.ifCond .eq off, 3)) (ht : (pc : Int) + off = (tgt : Int)) (ha : a < 2 ^ 31) (kt : a = 0 → gh_W l G R X g k n lv tgt st) (kf : 0 < a → gh_W l G R X g k n lv (pc + 3) st) : gh_W l G R X g k n lv pc (.int (nI a) :: st) := by
  refine gh_if_eq hK hd ht (fun z => kt ?_) (fun z => kf ?_)
  · have z : nI a = nI 0 := z
    exact (nI_eq ha (by decide)).mp z
  · have z : ¬ nI a = nI 0 := z
    exact Nat.pos_of_ne_zero fun h => z ((nI_eq ha (by decide)).mpr h)
theorem gh_if_neN {a : Nat} {off : Int} {tgt : Nat} (hK : gh_K G X cc nL own) (hd : decode cc pc = .ok (.ifCond .ne off, 3)) (ht : (pc : Int) + off = (tgt : Int)) (ha : a < 2 ^ 31) (kt : 0 < a → gh_W l G R X g k n lv tgt st) (kf : a = 0 → gh_W l G R X g k n lv (pc + 3) st) : gh_W l G R X g k n lv pc (.int (nI a) :: st) := by
  refine gh_if_ne hK hd ht (fun z => kt ?_) (fun z => kf ?_)
  · have z : ¬ nI a = nI 0 := z
    exact Nat.pos_of_ne_zero fun h => z ((nI_eq ha (by decide)).mpr h)
  · have z : nI a = nI 0 := z
    exact (nI_eq ha (by decide)).mp z
theorem gh_if_gtN {a : Nat} {off : Int} {tgt : Nat} (hK : gh_K G X cc nL own) (hd : decode cc pc = .ok (.ifCond .gt off, 3)) (ht : (pc : Int) + off = (tgt : Int)) (ha : a < 2 ^ 31) (kt : 0 < a → gh_W l G R X g k n lv tgt st) (kf : a = 0 → gh_W l G R X g k n lv (pc + 3) st) : gh_W l G R X g k n lv pc (.int (nI a) :: st) := by
  refine gh_if_gt hK hd ht (fun z => kt ?_) (fun z => kf ?_)
  · have z : nI 0 < nI a := z
    exact (nI_ltI (a := 0) (by decide) ha).mp z
  · have z : ¬ nI 0 < nI a := z
    exact Nat.eq_zero_of_not_pos fun h => z ((nI_ltI (a := 0) (by decide) ha).mpr h)
theorem gh_if_leN {a : Nat} {off : Int} {tgt : Nat} (hK : gh_K G X cc nL own) (hd : decode cc pc = .ok (.ifCond .le off, 3)) (ht : (pc : Int) + off = (tgt : Int)) (ha : a < 2 ^ 31) (kt : a = 0 → gh_W l G R X g k n lv tgt st) (kf : 0 < a → gh_W l G R X g k n lv (pc + 3) st) : gh_W l G R X g k n lv pc (.int (nI a) :: st) := by
  refine gh_if_le hK hd ht (fun z => kt ?_) (fun z => kf ?_)
  · have z : nI a ≤ nI 0 := z
    exact Nat.le_zero.mp ((nI_leI ha (b := 0) (by decide)).mp z)
  · have z : ¬ nI a ≤ nI 0 := z
    exact Nat.pos_of_ne_zero fun h => z ((nI_leI ha (b := 0) (by decide)).mpr (Nat.le_of_eq h))
theorem gh_if_ltN {a : Nat} {off : Int} (hK : gh_K G X cc nL own) (hd : decode cc pc = .ok (.ifCond .lt off, 3)) {tgt : Nat} (ht : (pc : Int) + off = (tgt : Int)) (ha : a < 2 ^ 31) (kf : gh_W l G R X g k n lv (pc + 3) st) : gh_W l G R X g k n lv pc (.int (nI a) :: st) :=
  gh_if_lt hK hd ht (fun z => absurd z (nI_pos ha)) (fun _ => kf)
theorem gh_if_geN {a : Nat} {off : Int} {tgt : Nat} (hK : gh_K G X cc nL own) (hd : decode cc pc = .ok (.ifCond .ge off, 3)) (ht : (pc : Int) + off = (tgt : Int)) (ha : a < 2 ^ 31) (kt : gh_W l G R X g k n lv tgt st) : gh_W l G R X g k n lv pc (.int (nI a) :: st) :=
  gh_if_ge hK hd ht (fun _ => kt) (fun z => absurd (nI_pos' ha) z)
theorem gh_addN {a b : Nat} (hK : gh_K G X cc nL own) (hd : decode cc pc = .ok (.iadd, 1)) (kk : gh_W l G R X g k n lv (pc + 1) (.int (nI (a + b)) :: st)) : gh_W l G R X g k n lv pc (.int (nI b) :: .int (nI a) :: st) := by
  refine gh_iadd hK hd ?_
  rw [nI_add]
  exact kk
theorem gh_subN {a b : Nat} (hK : gh_K G X cc nL own) (hd : decode cc pc = .ok (.isub, 1)) (h : b ≤ a) (kk : gh_W l G R X g k n lv (pc + 1) (.int (nI (a - b)) :: st)) : gh_W l G R X g k n lv pc (.int (nI b) :: .int (nI a) :: st) := by
  refine gh_isub hK hd ?_
  rw [pk_sub h]
  exact kk
theorem gh_mulN {a b : Nat} (hK : gh_K G X cc nL own) (hd : decode cc pc = .ok (.imul, 1)) (kk : gh_W l G R X g k n lv (pc + 1) (.int (nI (a * b)) :: st)) : gh_W l G R X g k n lv pc (.int (nI b) :: .int (nI a) :: st) := by
  refine gh_imul hK hd ?_
  rw [pk_mul]
  exact kk
theorem gh_divN {a b : Nat} (hK : gh_K G X cc nL own) (hd : decode cc pc = .ok (.idiv, 1)) (ha : a < 2 ^ 31) (h0 : 0 < b) (hb : b < 2 ^ 31) (kk : gh_W l G R X g k n lv (pc + 1) (.int (nI (a / b)) :: st)) : gh_W l G R X g k n lv pc (.int (nI b) :: .int (nI a) :: st) := by
  refine gh_idiv hK hd (nI_ne0 h0 hb) ?_
  rw [pk_div ha h0 hb]
  exact kk
theorem gh_remN {a b : Nat} (hK : gh_K G X cc nL own) (hd : decode cc pc = .ok (.irem, 1)) (ha : a < 2 ^ 31) (h0 : 0 < b) (hb : b < 2 ^ 31) (kk : gh_W l G R X g k n lv (pc + 1) (.int (nI (a % b)) :: st)) : gh_W l G R X g k n lv pc (.int (nI b) :: .int (nI a) :: st) := by
  refine gh_irem hK hd (nI_ne0 h0 hb) ?_
  rw [pk_rem ha h0 hb]
  exact kk
theorem gh_incN {i a : Nat} {lv' : List (Option Value)} (hK : gh_K G X cc nL own) (hd : decode cc pc = .ok (.iinc i 1, 3)) (hx1 : lv[i]? = some (some (.int (nI a)))) (hv : lv.set i (some (.int (nI (a + 1)))) = lv') (kk : gh_W l G R X g k n lv' (pc + 3) st) : gh_W l G R X g k n lv pc st :=
  gh_iinc hK hd hx1 (nI_1 a) hv kk
end GHR5
end
section
section GHR6
variable {l : Launch} {G : GG} {R : Room} {X : GX} {cc : ByteArray} {nL : Nat} {own : String} {g : GH} {k n pc : Nat} {lv : List (Option Value)} {st : List Value} {Post : Option Value → GH → Prop}
theorem gh_ldcS {i index : Nat} {tx : String} (hK : gh_K G X cc nL own) (hd : decode cc pc = .ok (.ldc index, 2)) (hi : i < st_N) (hq : st_own[i]? = some (own, index, tx)) (kk : gh_W l G R X g k n lv (pc + 2) (.ref (G.2.2.1 i) :: st)) : gh_W l G R X g k n lv pc st := by
  obtain ⟨p, e, s, m, args, below, meth, c, A, Q⟩ := X
  obtain ⟨hx, hb, hml, hown, hts, hC, hA⟩ := hK
  intro H locs ls hP hAa hS hl
  exact va_ldcS hx hb hown (hC.2.2 i hi _ hq) hd (kk H locs ls hP hAa hS hl)
theorem gh_strV {i index : Nat} (hK : gh_K G X cc nL own) (hd : decode cc pc = .ok (.getfield index, 3)) (hi : i < st_N) (hlk : Cond.fieldLink own index "java/lang/String" "value" "[B" ∈ gTbl) (kk : gh_W l G R X g k n lv (pc + 3) (.ref (G.2.2.2.1 i) :: st)) : gh_W l G R X g k n lv pc (.ref (G.2.2.1 i) :: st) := by
  obtain ⟨p, e, s, m, args, below, meth, c, A, Q⟩ := X
  obtain ⟨hx, hb, hml, hown, hts, hC, hA⟩ := hK
  intro H locs ls hP hAa hS hl
  exact vk_getf hx hb (hC.2.1.1.1 i hi).2.2.1 hS hown (hts _ hlk) (fun x h => h) hd (kk H locs ls hP hAa hS hl)
theorem gh_strC {i index : Nat} (hK : gh_K G X cc nL own) (hd : decode cc pc = .ok (.getfield index, 3)) (hi : i < st_N) (hlk : Cond.fieldLink own index "java/lang/String" "coder" "B" ∈ gTbl) (kk : gh_W l G R X g k n lv (pc + 3) (.int (nI 0) :: st)) : gh_W l G R X g k n lv pc (.ref (G.2.2.1 i) :: st) := by
  obtain ⟨p, e, s, m, args, below, meth, c, A, Q⟩ := X
  obtain ⟨hx, hb, hml, hown, hts, hC, hA⟩ := hK
  intro H locs ls hP hAa hS hl
  exact vk_getf hx hb (hC.2.1.1.1 i hi).2.1 hS hown (hts _ hlk) (fun x h => h) hd (kk H locs ls hP hAa hS hl)
theorem gh_strL {i : Nat} (hK : gh_K G X cc nL own) (hd : decode cc pc = .ok (.arraylength, 1)) (hi : i < st_N) (kk : gh_W l G R X g k n lv (pc + 1) (.int (nI (st_len.getD i 0)) :: st)) : gh_W l G R X g k n lv pc (.ref (G.2.2.2.1 i) :: st) := by
  obtain ⟨p, e, s, m, args, below, meth, c, A, Q⟩ := X
  obtain ⟨hx, hb, hml, hown, hts, hC, hA⟩ := hK
  intro H locs ls hP hAa hS hl
  exact va_tlen hx hb (hC.2.1.1.1 i hi).2.2.2 hS rfl hd (kk H locs ls hP hAa hS hl)
theorem gh_strB {i j : Nat} (hK : gh_K G X cc nL own) (hd : decode cc pc = .ok (.baload, 1)) (hi : i < st_N) (hj : j < st_len.getD i 0) (hj2 : st_len.getD i 0 < 2 ^ 31) (kk : gh_W l G R X g k n lv (pc + 1) (.int ((st_byt.getD i []).getD j 0) :: st)) : gh_W l G R X g k n lv pc (.int (nI j) :: .ref (G.2.2.2.1 i) :: st) := by
  obtain ⟨p, e, s, m, args, below, meth, c, A, Q⟩ := X
  obtain ⟨hx, hb, hml, hown, hts, hC, hA⟩ := hK
  intro H locs ls hP hAa hS hl
  exact va_tb hx hb (hC.2.1.1.1 i hi).2.2.2 hS (vp_in_nI hj hj2) (by rw [nI_clamp (by omega)]) hd (kk H locs ls hP hAa hS hl)
theorem gh_cs {index : Nat} (hK : gh_K G X cc nL own) (hd : decode cc pc = .ok (.getstatic index, 3)) (hlk : Cond.fieldLink own index "java/lang/String" "COMPACT_STRINGS" "Z" ∈ gTbl) (kk : gh_W l G R X g k n lv (pc + 3) (.int (nI 1) :: st)) : gh_W l G R X g k n lv pc st := by
  obtain ⟨p, e, s, m, args, below, meth, c, A, Q⟩ := X
  obtain ⟨hx, hb, hml, hown, hts, hC, hA⟩ := hK
  intro H locs ls hP hAa hS hl
  exact va_gets hx hb hC.2.1.2.2.2.1 hS hown (hts _ hlk) (fun x h => h) hd (kk H locs ls hP hAa hS hl)
theorem gh_sio {index : Nat} (hK : gh_K G X cc nL own) (hd : decode cc pc = .ok (.getstatic index, 3)) (hlk : Cond.fieldLink own index "jdk/internal/util/Preconditions" "SIOOBE_FORMATTER" "Ljava/util/function/BiFunction;" ∈ gTbl) (kk : ∀ v : Value, (v = .null ∨ ∃ a, v = .ref a) → gh_W l G R X g k n lv (pc + 3) (v :: st)) : gh_W l G R X g k n lv pc st := by
  obtain ⟨p, e, s, m, args, below, meth, c, A, Q⟩ := X
  obtain ⟨hx, hb, hml, hown, hts, hC, hA⟩ := hK
  intro H locs ls hP hAa hS hl
  rcases hC.2.1.2.2.2.2.1 with h | ⟨t, h⟩
  · exact va_gets hx hb h hS hown (hts _ hlk) (fun x h => h) hd (kk _ (Or.inl rfl) H locs ls hP hAa hS hl)
  · exact va_gets hx hb h hS hown (hts _ hlk) (fun x h => h) hd (kk _ (Or.inr ⟨t, rfl⟩) H locs ls hP hAa hS hl)
theorem gh_de {index : Nat} (hK : gh_K G X cc nL own) (hd : decode cc pc = .ok (.getstatic index, 3)) (hlk : Cond.fieldLink own index "java/util/ArrayList" "DEFAULTCAPACITY_EMPTY_ELEMENTDATA" "[Ljava/lang/Object;" ∈ gTbl) (kk : gh_W l G R X g k n lv (pc + 3) (.ref G.2.2.2.2.1 :: st)) : gh_W l G R X g k n lv pc st := by
  obtain ⟨p, e, s, m, args, below, meth, c, A, Q⟩ := X
  obtain ⟨hx, hb, hml, hown, hts, hC, hA⟩ := hK
  intro H locs ls hP hAa hS hl
  exact va_gets hx hb hC.2.1.2.1 hS hown (hts _ hlk) (fun x h => h) hd (kk H locs ls hP hAa hS hl)
theorem gh_deL (hK : gh_K G X cc nL own) (hd : decode cc pc = .ok (.arraylength, 1)) (kk : gh_W l G R X g k n lv (pc + 1) (.int (nI 0) :: st)) : gh_W l G R X g k n lv pc (.ref G.2.2.2.2.1 :: st) := by
  obtain ⟨p, e, s, m, args, below, meth, c, A, Q⟩ := X
  obtain ⟨hx, hb, hml, hown, hts, hC, hA⟩ := hK
  intro H locs ls hP hAa hS hl
  exact va_tlen hx hb hC.2.1.2.2.1 hS rfl hd (kk H locs ls hP hAa hS hl)
/-- the empty list's array is no cell of the world -/
theorem gh_deO (hK : gh_K G X cc nL own) (kk : g G.2.2.2.2.1 = none → gh_W l G R X g k n lv pc st) : gh_W l G R X g k n lv pc st := by
  obtain ⟨p, e, s, m, args, below, meth, c, A, Q⟩ := X
  obtain ⟨hx, hb, hml, hown, hts, hC, hA⟩ := id hK
  intro H locs ls hP hAa hS hl
  refine kk ?_ H locs ls hP hAa hS hl
  cases hg : g G.2.2.2.2.1 with
  | none => rfl
  | some x => exact absurd (hAa _ (by rw [hg]; exact fun z => by cases z)) (va_T.out hC.2.1.2.2.1)
theorem gh_callVs {y : MethodName} {cy : ByteArray} {ny na index i : Nat} {ry : Option FieldType} {rm : Room} {rest : List Value} (As : List Value) (hK : gh_K G X cc nL own) (hM : gMet l G y cy ny ry rm (.ref (G.2.2.1 i) :: As) g Post) (hY : gh_Y y cy ny ry na) (hV : Cond.instanceMethod y ∈ gTbl ∧ Cond.selects y.cls y y ∈ gTbl) (hlk : Cond.methodLink own index y ∈ gTbl) (hi : i < st_N) (hc : y.cls = "java/lang/String") (hst : st = As.reverse ++ .ref (G.2.2.1 i) :: rest) (hd : decode cc pc = .ok (.invokevirtual index, 3)) (hna : As.length = na) (hlv : lv.length = nL) (hrest : (rest.map fun v => v.category).sum ≤ 8) (hR : rm.frames + 1 ≤ R.frames ∧ 8 + (ny + 11) + rm.locals ≤ R.locals) (hf : k + rm.cells ≤ R.cells ∧ n + rm.slots ≤ R.slots)
    (kk : ∀ (v : Option Value) (g' : GH), Post v g' → gh_W l G R X g' (k + rm.cells) (n + rm.slots) lv (pc + 3) (v.toList ++ rest)) : gh_W l G R X g k n lv pc st := by
  obtain ⟨p, e, s, m, args, below, meth, c, A, Q⟩ := X
  obtain ⟨hx, hb, hml, hown, hts, hC, hA⟩ := hK
  intro H locs ls hP hAa hS hl
  obtain ⟨hbl, hpre⟩ := gh_pre hP hAa hS hA hC (.ref (G.2.2.1 i) :: As)
  refine gh_back hP hAa hS hl hA (a := (Value.ref (G.2.2.1 i) :: As).toArray) (va_runV (C := y.cls) (b := G.2.2.1 i) (As := As) (rest := rest) ⟨hx, hb, hml, hown, hts⟩ (hM H.size) ⟨gh_good hts hY hlk hR, hts _ hV.1, hts _ hV.2⟩ ⟨hbl, ?_, hpre⟩ rfl hna (by rw [← hlv]; exact hl.1) hst (lv_room hrest) hd hf) kk
  rw [hc]
  exact vk_recv hC.2.1.1 hi hS
end GHR6
theorem st_all : ∀ i, i < st_N → st_len.getD i 0 = (st_txt.getD i []).length ∧ st_len.getD i 0 < 100 ∧ ∀ j, j < st_len.getD i 0 → (st_byt.getD i []).getD j 0 = nI ((st_txt.getD i []).getD j 0) ∧ (st_txt.getD i []).getD j 0 < 128 := by decide +kernel
theorem w_cn : Cond.native arraycopyName ∈ gTbl := gt_in (i := 585) (by decide +kernel) rfl
theorem w_cs : Cond.static arraycopyName ∈ gTbl := gt_in (i := 584) (by decide +kernel) rfl
theorem w_cy : Cond.initialized "java/lang/System" ∈ gTbl := gt_in (i := 30) (by decide +kernel) rfl
section GHCP
variable {l : Launch} {G : GG} {R : Room} {X : GX} {cc : ByteArray} {nL : Nat} {own : String} {g : GH} {k n pc : Nat} {lv : List (Option Value)} {st : List Value}
/-- System.arraycopy within one array of ints -/
theorem gh_copyi {a t N t0 index sp dp cn : Nat} {cA : ClassId} {f : Nat → Int32} (hK : gh_K G X cc nL own) (hd : decode cc pc = .ok (.invokestatic index, 3)) (hlk : Cond.methodLink own index arraycopyName ∈ gTbl) (he : g a = some (t, .inl (cA, N, .inl f))) (ht : (gh_tys G)[t0]? = some (cA, .int)) (hN : N < 2 ^ 31) (h1 : sp + cn ≤ N) (h2 : dp + cn ≤ N) (hlv : lv.length = nL) (hR : 1 ≤ R.frames) (hR2 : (st.map fun v => v.category).sum + (nativeFrameWords "java/lang/System" "arraycopy" 5 + 11) ≤ R.locals) (kk : gh_W l G R X (gh_up g a t (.inl (cA, N, .inl (va_cpy f f sp dp cn)))) k n lv (pc + 3) st) : gh_W l G R X g k n lv pc (.int (nI cn) :: .int (nI dp) :: .ref a :: .int (nI sp) :: .ref a :: st) := by
  obtain ⟨p, e, s, m, args, below, meth, c, A, Q⟩ := X
  obtain ⟨hx, hb, hml, hown, hts, hC, hA⟩ := hK
  intro H locs ls hP hAa hS hl
  obtain ⟨ws, w1, w2, w3, w4⟩ := gh_list hP hAa
  obtain ⟨q0, hq⟩ := w3 a t _ he
  have c1 : (nI sp).toNatClampNeg = sp := nI_clamp (by omega)
  have c2 : (nI dp).toNatClampNeg = dp := nI_clamp (by omega)
  have c3 : (nI cn).toNatClampNeg = cn := nI_clamp (by omega)
  refine va_copyi hx hb (by rw [hml, ← hlv]; exact hl.1.symm) hown (hts _ hlk) (hts _ w_cn) (hts _ w_cs) (hts _ w_cy) hC.1 w1 w2 hS q0 q0 t0 t0 hq hq ht ht rfl (nI_pos (by omega)) (nI_pos (by omega)) (nI_pos (by omega)) (by rw [c1, c3]; exact h1) (by rw [c2, c3]; exact h2) (fun _ _ => rfl) hR hR2 hd (fun H1 locs1 z1 z2 z3 => ?_)
  rw [c1, c2, c3] at z1 z2
  refine kk H1 locs1 ls (gh_set t w2 w3 hq z1) (fun b hb => ?_) z3 hl
  by_cases hba : b = a
  · rw [hba]; exact hAa a (by rw [he]; exact fun z => by cases z)
  · rw [gh_un hba] at hb; exact hAa b hb
end GHCP
theorem w_sf : Cond.sameField "java/util/ArrayList" "java/util/AbstractList" "modCount" "I" ∈ gTbl := gt_in (i := 127) (by decide +kernel) rfl
theorem w_gs : Cond.selects "[Ljava/lang/Object;" ⟨"java/lang/Object", "getClass", "()Ljava/lang/Class;"⟩ ⟨"java/lang/Object", "getClass", "()Ljava/lang/Class;"⟩ ∈ gTbl := gt_in (i := 1421) (by decide +kernel) rfl
theorem w_gi : Cond.instanceMethod ⟨"java/lang/Object", "getClass", "()Ljava/lang/Class;"⟩ ∈ gTbl := gt_in (i := 762) (by decide +kernel) rfl
theorem w_gn : Cond.native ⟨"java/lang/Object", "getClass", "()Ljava/lang/Class;"⟩ ∈ gTbl := gt_in (i := 780) (by decide +kernel) rfl
section GHQ
variable {l : Launch} {G : GG} {R : Room} {X : GX} {cc : ByteArray} {nL : Nat} {own : String} {g : GH} {k n pc : Nat} {lv : List (Option Value)} {st : List Value}
abbrev qArr (G : GG) (N : Nat) (f : Nat → Option Nat) : va_E := .inl (G.2.1 2, N, .inr (.inr (.inr (.inr f))))
/-- modCount, which AbstractList declares -/
theorem gh_getM {index a t : Nat} {fs : List Value} {v : Value} (hK : gh_K G X cc nL own) (hd : decode cc pc = .ok (.getfield index, 3)) (he : g a = some (t, .inr (11, fs))) (hlink : Cond.fieldLink own index "java/util/ArrayList" "modCount" "I" ∈ gTbl) (hv : fs[0]? = some v) (kk : gh_W l G R X g k n lv (pc + 3) (v :: st)) : gh_W l G R X g k n lv pc (.ref a :: st) := by
  obtain ⟨p, e, s, m, args, below, meth, c, A, Q⟩ := X
  obtain ⟨hx, hb, hml, hown, hts, hC, hA⟩ := hK
  intro H locs ls hP hAa hS hl
  exact va_get (C := R_AL) (T := F_AL) (N := 3) (ws := [(a, .inr (11, fs))]) hx hb hts in_AL hown hC.1 (fun i q hi => by
    have hz : i < 1 := (List.getElem?_eq_some_iff.mp hi).1
    rw [show i = 0 by omega] at hi
    cases hi
    exact hP a t _ he) 0 rfl rfl 0 (by decide) (hts _ hlink) (fun x h => u_same (hts _ w_sf) x h) hv hd (kk H locs ls hP hAa hS hl)
theorem gh_putM {index a t : Nat} {fs fs' : List Value} {v : Int32} (hK : gh_K G X cc nL own) (hd : decode cc pc = .ok (.putfield index, 3)) (he : g a = some (t, .inr (11, fs))) (hlink : Cond.fieldLink own index "java/util/ArrayList" "modCount" "I" ∈ gTbl) (hl0 : 0 < fs.length) (hfs : fs.set 0 (.int v) = fs') (kk : gh_W l G R X (gh_up g a t (.inr (11, fs'))) k n lv (pc + 3) st) : gh_W l G R X g k n lv pc (.int v :: .ref a :: st) := by
  obtain ⟨p, e, s, m, args, below, meth, c, A, Q⟩ := X
  obtain ⟨hx, hb, hml, hown, hts, hC, hA⟩ := hK
  intro H locs ls hP hAa hS hl
  subst hfs
  obtain ⟨ws, w1, w2, w3, w4⟩ := gh_list hP hAa
  obtain ⟨q0, hq⟩ := w3 a t _ he
  refine va_put (C := R_AL) (T := F_AL) (N := 3) hx hb hts in_AL t_AL ty_AL nm_AL hown hC.1 w1 w2 hS q0 hq rfl 0 (by decide) (hts _ hlink) (fun x h => u_same (hts _ w_sf) x h) rfl (ty_AL 0 (by decide)) rfl rfl hl0 hd (fun H1 locs1 h1 h2 h3 => kk H1 locs1 ls (gh_set t w2 w3 hq h1) (fun b hb => ?_) h3 hl)
  by_cases hba : b = a
  · rw [hba]; exact hAa a (by rw [he]; exact fun z => by cases z)
  · rw [gh_un hba] at hb; exact hAa b hb
theorem gh_aaldN {a t N j : Nat} {f : Nat → Option Nat} (hK : gh_K G X cc nL own) (hd : decode cc pc = .ok (.aaload, 1)) (he : g a = some (t, qArr G N f)) (hj : j < N) (hN : N < 2 ^ 31) (kk : gh_W l G R X g k n lv (pc + 1) (va_rf (f j) :: st)) : gh_W l G R X g k n lv pc (.int (nI j) :: .ref a :: st) := by
  refine gh_aald (t0 := 2) hK hd he rfl (vp_in_nI hj hN) ?_
  rw [nI_clamp (by omega)]
  exact kk
/-- an object of the class ci into an array of Objects -/
theorem gh_aast {a t N j v tv ci : Nat} {vs : List Value} {r : vw_C} {f : Nat → Option Nat} (hK : gh_K G X cc nL own) (hd : decode cc pc = .ok (.aastore, 1)) (he : g a = some (t, qArr G N f)) (hv : g v = some (tv, .inr (ci, vs))) (hc : vwCl[ci]? = some r) (hci : r.1 = "SpellDesk$Entry" ∨ r.1 = "SpellDesk$Rule") (hj : j < N) (hN : N < 2 ^ 31) (kk : gh_W l G R X (gh_up g a t (qArr G N (va_up f j (some v)))) k n lv (pc + 1) st) : gh_W l G R X g k n lv pc (.ref v :: .int (nI j) :: .ref a :: st) := by
  obtain ⟨p, e, s, m, args, below, meth, c, A, Q⟩ := X
  obtain ⟨hx, hb, hml, hown, hts, hC, hA⟩ := hK
  intro H locs ls hP hAa hS hl
  obtain ⟨ws, w1, w2, w3, w4⟩ := gh_list hP hAa
  obtain ⟨q0, hq⟩ := w3 a t _ he
  obtain ⟨qk, hqk⟩ := w3 v tv _ hv
  have hX := hC.2.1.2.2.2.2.2.2.2
  have hca : va_Nw (.castable r.1 "java/lang/Object") s := by
    rcases hci with h | h
    · rw [h]; exact hX.2.1
    · rw [h]; exact hX.2.2.1
  have ej : (nI j).toNatClampNeg = j := nI_clamp (by omega)
  refine va_astqO (E := "java/lang/Object") hx hb hC.1 w1 w2 hS q0 2 qk ci hq rfl hca hqk hc (vp_in_nI hj hN) hd (fun H1 locs1 h1 h2 h3 => kk H1 locs1 ls (gh_set t w2 w3 hq (by rw [ej] at h1; exact h1)) (fun b hb => ?_) h3 hl)
  by_cases hba : b = a
  · rw [hba]; exact hAa a (by rw [he]; exact fun z => by cases z)
  · rw [gh_un hba] at hb; exact hAa b hb
theorem gh_aastN {a t N j : Nat} {f : Nat → Option Nat} (hK : gh_K G X cc nL own) (hd : decode cc pc = .ok (.aastore, 1)) (he : g a = some (t, qArr G N f)) (hj : j < N) (hN : N < 2 ^ 31) (kk : gh_W l G R X (gh_up g a t (qArr G N (va_up f j none))) k n lv (pc + 1) st) : gh_W l G R X g k n lv pc (.null :: .int (nI j) :: .ref a :: st) := by
  obtain ⟨p, e, s, m, args, below, meth, c, A, Q⟩ := X
  obtain ⟨hx, hb, hml, hown, hts, hC, hA⟩ := hK
  intro H locs ls hP hAa hS hl
  obtain ⟨ws, w1, w2, w3, w4⟩ := gh_list hP hAa
  obtain ⟨q0, hq⟩ := w3 a t _ he
  have ej : (nI j).toNatClampNeg = j := nI_clamp (by omega)
  refine va_astqN (C := "java/lang/Object") hx hb hC.1 w1 w2 hS q0 2 hq rfl (vp_in_nI hj hN) hd (fun H1 locs1 h1 h2 h3 => kk H1 locs1 ls (gh_set t w2 w3 hq (by rw [ej] at h1; exact h1)) (fun b hb => ?_) h3 hl)
  by_cases hba : b = a
  · rw [hba]; exact hAa a (by rw [he]; exact fun z => by cases z)
  · rw [gh_un hba] at hb; exact hAa b hb
theorem gh_newq {N index : Nat} (t : Nat) (hK : gh_K G X cc nL own) (hd : decode cc pc = .ok (.anewarray index, 3)) (hcl : Cond.classLink own index "java/lang/Object" ∈ gTbl) (hN : N < 65536) (hcells : k + 1 ≤ R.cells) (hslots : n + N ≤ R.slots) (kk : ∀ a : Nat, g a = none → gh_W l G R X (gh_up g a t (qArr G N (fun _ => none))) (k + 1) (n + N) lv (pc + 3) (.ref a :: st)) : gh_W l G R X g k n lv pc (.int (nI N) :: st) := by
  obtain ⟨p, e, s, m, args, below, meth, c, A, Q⟩ := X
  obtain ⟨hx, hb, hml, hown, hts, hC, hA⟩ := hK
  intro H locs ls hP hAa hS hl
  obtain ⟨ws, w1, w2, w3, w4⟩ := gh_list hP hAa
  refine va_newq (N' := N) hx hb hown (hts _ hcl) hC.2.1.2.2.2.2.2.2.2.1 hC.1 w1 w2 hS hA (nI_pos (by omega)) (nI_clamp (by omega)) (by omega) hcells hslots hd (fun q cB H1 hK1 h1 h2 h3 => ?_)
  have e : cB = G.2.1 2 := by
    have z1 := va_nmO (hK1.2 (gh_tys G).length (cB, .object "java/lang/Object") (by rw [List.getElem?_append_right (Nat.le_refl _), Nat.sub_self]; rfl)).2 rfl
    have z2 := va_nmO (hC.1.2 2 (G.2.1 2, .object "java/lang/Object") rfl).2 rfl
    exact Option.some.inj (z1.symm.trans z2)
  subst e
  obtain ⟨z1, z2⟩ := gh_push t w3 h1 h2
  refine kk q z1 H1 locs ls z2 (fun b hb => ?_) h3 hl
  by_cases hba : b = q
  · rw [hba]
    exact h2.2 ws.length (q, _) (by rw [List.getElem?_append_right (Nat.le_refl _), Nat.sub_self]; rfl)
  · rw [gh_un hba] at hb; exact hAa b hb
/-- System.arraycopy between arrays of Objects that hold entries, or rules, alone -/
theorem gh_copyq {a0 u0 a t N0 N index sp dp cn ci : Nat} {r : vw_C} {f f2 : Nat → Option Nat} (hK : gh_K G X cc nL own) (hd : decode cc pc = .ok (.invokestatic index, 3)) (hlk : Cond.methodLink own index arraycopyName ∈ gTbl) (he0 : g a0 = some (u0, qArr G N0 f)) (he : g a = some (t, qArr G N f2)) (hc : vwCl[ci]? = some r) (hci : r.1 = "SpellDesk$Entry" ∨ r.1 = "SpellDesk$Rule") (hel : ∀ i, i < cn → ∀ y, f (sp + i) = some y → ∃ ty fs, g y = some (ty, .inr (ci, fs))) (hN0 : N0 < 2 ^ 31) (hN : N < 2 ^ 31) (h1 : sp + cn ≤ N0) (h2 : dp + cn ≤ N) (hlv : lv.length = nL) (hR : 1 ≤ R.frames) (hR2 : (st.map fun v => v.category).sum + (nativeFrameWords "java/lang/System" "arraycopy" 5 + 11) ≤ R.locals) (kk : gh_W l G R X (gh_up g a t (qArr G N (va_cpy f f2 sp dp cn))) k n lv (pc + 3) st) : gh_W l G R X g k n lv pc (.int (nI cn) :: .int (nI dp) :: .ref a :: .int (nI sp) :: .ref a0 :: st) := by
  obtain ⟨p, e, s, m, args, below, meth, c, A, Q⟩ := X
  obtain ⟨hx, hb, hml, hown, hts, hC, hA⟩ := hK
  intro H locs ls hP hAa hS hl
  obtain ⟨ws, w1, w2, w3, w4⟩ := gh_list hP hAa
  obtain ⟨q0, hq0⟩ := w3 a0 u0 _ he0
  obtain ⟨q1, hq⟩ := w3 a t _ he
  have c1 : (nI sp).toNatClampNeg = sp := nI_clamp (by omega)
  have c2 : (nI dp).toNatClampNeg = dp := nI_clamp (by omega)
  have c3 : (nI cn).toNatClampNeg = cn := nI_clamp (by omega)
  have hX := hC.2.1.2.2.2.2.2.2.2
  have hca : va_Nw (.castable r.1 "java/lang/Object") s := by
    rcases hci with h | h
    · rw [h]; exact hX.2.1
    · rw [h]; exact hX.2.2.1
  refine va_copyq (C := r.1) (E1 := "java/lang/Object") hx hb (by rw [hml, ← hlv]; exact hl.1.symm) hown (hts _ hlk) (hts _ w_cn) (hts _ w_cs) (hts _ w_cy) hC.1 w1 w2 hS q0 q1 2 2 hq0 hq rfl rfl (nI_pos (by omega)) (nI_pos (by omega)) (nI_pos (by omega)) (by rw [c1, c3]; exact h1) (by rw [c2, c3]; exact h2) (fun i hi y hy => ?_) (fun comp c0 z1 z2 => ?_) hR hR2 hd (fun H1 locs1 z1 z2 z3 => ?_)
  · rw [c1] at hy
    rw [c3] at hi
    obtain ⟨ty, fs, hg⟩ := hel i hi y hy
    obtain ⟨qy, hqy⟩ := w3 y ty _ hg
    exact va_recv hC.1 w1 hc hqy
  · obtain ⟨x1, x2, y1, y2, y3⟩ := Cond.castable_spec (va_Nw.use (A := args) rfl hca)
    cases z2.symm.trans y1
    cases z1.symm.trans y2
    exact y3
  rw [c1, c2, c3] at z1 z2
  refine kk H1 locs1 ls (gh_set t w2 w3 hq z1) (fun b hb => ?_) z3 hl
  by_cases hba : b = a
  · rw [hba]; exact hAa a (by rw [he]; exact fun z => by cases z)
  · rw [gh_un hba] at hb; exact hAa b hb
theorem gh_acmp_eq {rx ry : Nat} {off : Int} {tgt : Nat} (hK : gh_K G X cc nL own) (hd : decode cc pc = .ok (.if_acmp .eq off, 3)) (ht : (pc : Int) + off = (tgt : Int)) (kt : rx = ry → gh_W l G R X g k n lv tgt st) (kf : rx ≠ ry → gh_W l G R X g k n lv (pc + 3) st) : gh_W l G R X g k n lv pc (.ref ry :: .ref rx :: st) := by
  obtain ⟨p, e, s, m, args, below, meth, c, A, Q⟩ := X
  obtain ⟨hx, hb, hml, hown, hts, hC, hA⟩ := hK
  intro H locs ls hP hAa hS hl
  exact lv_acmp_eq (rx := some rx) (ry := some ry) hx hb hd ht (fun z => kt (Option.some.inj z) H locs ls hP hAa hS hl) (fun z => kf (fun q => z (by rw [q])) H locs ls hP hAa hS hl)
theorem gh_acmp_ne {rx ry : Nat} {off : Int} {tgt : Nat} (hK : gh_K G X cc nL own) (hd : decode cc pc = .ok (.if_acmp .ne off, 3)) (ht : (pc : Int) + off = (tgt : Int)) (kt : rx ≠ ry → gh_W l G R X g k n lv tgt st) (kf : rx = ry → gh_W l G R X g k n lv (pc + 3) st) : gh_W l G R X g k n lv pc (.ref ry :: .ref rx :: st) := by
  obtain ⟨p, e, s, m, args, below, meth, c, A, Q⟩ := X
  obtain ⟨hx, hb, hml, hown, hts, hC, hA⟩ := hK
  intro H locs ls hP hAa hS hl
  exact lv_acmp_ne (rx := some rx) (ry := some ry) hx hb hd ht (fun z => kt (fun q => z (by rw [q])) H locs ls hP hAa hS hl) (fun z => kf (Option.some.inj z) H locs ls hP hAa hS hl)
theorem gh_ldcM {index : Nat} (hK : gh_K G X cc nL own) (hd : decode cc pc = .ok (.ldc index, 2)) (hcl : Cond.classLink own index "[Ljava/lang/Object;" ∈ gTbl) (kk : gh_W l G R X g k n lv (pc + 2) (.ref G.2.2.2.2.2 :: st)) : gh_W l G R X g k n lv pc st := by
  obtain ⟨p, e, s, m, args, below, meth, c, A, Q⟩ := X
  obtain ⟨hx, hb, hml, hown, hts, hC, hA⟩ := hK
  intro H locs ls hP hAa hS hl
  exact va_ldcM hx hb hown (hts _ hcl) hC.2.1.2.2.2.2.2.2.2.2.2.2.2.2.2 hd (kk H locs ls hP hAa hS hl)
theorem gh_getC {a t N index : Nat} {f : Nat → Option Nat} (hK : gh_K G X cc nL own) (hd : decode cc pc = .ok (.invokevirtual index, 3)) (hlk : Cond.methodLink own index ⟨"java/lang/Object", "getClass", "()Ljava/lang/Class;"⟩ ∈ gTbl) (he : g a = some (t, qArr G N f)) (hlv : lv.length = nL) (hR : 1 ≤ R.frames) (hR2 : (st.map fun v => v.category).sum + 14 ≤ R.locals) (kk : gh_W l G R X g k n lv (pc + 3) (.ref G.2.2.2.2.2 :: st)) : gh_W l G R X g k n lv pc (.ref a :: st) := by
  obtain ⟨p, e, s, m, args, below, meth, c, A, Q⟩ := X
  obtain ⟨hx, hb, hml, hown, hts, hC, hA⟩ := hK
  intro H locs ls hP hAa hS hl
  have hX := hC.2.1.2.2.2.2.2.2.2
  refine va_getC hx hb (by rw [hml, ← hlv]; exact hl.1.symm) hown (hts _ hlk) (va_Dc.use hX.2.2.2.2.2.1) (hts _ w_gs) (hts _ w_gi) (hts _ w_gn) hX.2.2.2.2.2.2 ⟨_, hP a t _ he, rfl, ?_⟩ hR hR2 hd (kk H locs ls hP hAa hS hl)
  exact va_nmO (hC.1.2 2 (G.2.1 2, .object "java/lang/Object") rfl).2 rfl
/-- checkcast of an object of its own class -/
theorem gh_cast0 {a t ci index N : Nat} {nm : String} {T : u_T} {fs : List Value} (hK : gh_K G X cc nL own) (hd : decode cc pc = .ok (.checkcast index, 3)) (hcl : Cond.classLink own index nm ∈ gTbl) (he : g a = some (t, .inr (ci, fs))) (hc : vwCl[ci]? = some (nm, T, N)) (kk : gh_W l G R X g k n lv (pc + 3) (.ref a :: st)) : gh_W l G R X g k n lv pc (.ref a :: st) := by
  obtain ⟨p, e, s, m, args, below, meth, c, A, Q⟩ := X
  obtain ⟨hx, hb, hml, hown, hts, hC, hA⟩ := hK
  intro H locs ls hP hAa hS hl
  exact va_castS hx hb hown (hts _ hcl) (hC.1.1 ci _ hc).2 (va_recv (ws := [(a, .inr (ci, fs))]) hC.1 (fun i q hi => by
    have hz : i < 1 := (List.getElem?_eq_some_iff.mp hi).1
    rw [show i = 0 by omega] at hi
    cases hi
    exact hP a t _ he) (ci := ci) (q := (nm, T, N)) (q0 := 0) hc rfl) hd (kk H locs ls hP hAa hS hl)
theorem gh_ldcI {index : Nat} {v : Int32} (hK : gh_K G X cc nL own) (hd : decode cc pc = .ok (.ldc index, 2)) (hw : Cond.constant own index v ∈ gTbl) (kk : gh_W l G R X g k n lv (pc + 2) (.int v :: st)) : gh_W l G R X g k n lv pc st := by
  obtain ⟨p, e, s, m, args, below, meth, c, A, Q⟩ := X
  obtain ⟨hx, hb, hml, hown, hts, hC, hA⟩ := hK
  intro H locs ls hP hAa hS hl
  exact lv_ldc hx hb hown (hts _ hw) hd (kk H locs ls hP hAa hS hl)
end GHQ
end
section
/-! what a method may change, by the tags -/
def gh_M (S : List Nat) (g g' : GH) : Prop := ∀ (q t : Nat) (e : va_E), g q = some (t, e) → t ∉ S → g' q = some (t, e)
theorem gh_M.rf {S : List Nat} {g : GH} : gh_M S g g := fun _ _ _ h _ => h
theorem gh_M.tr {S : List Nat} {g1 g2 g3 : GH} (h1 : gh_M S g1 g2) (h2 : gh_M S g2 g3) : gh_M S g1 g3 := fun q t e h hn => h2 q t e (h1 q t e h hn) hn
theorem gh_M.wd {S S' : List Nat} {g g' : GH} (h : gh_M S g g') (hs : ∀ t, t ∈ S → t ∈ S') : gh_M S' g g' := fun q t e hq hn => h q t e hq (fun z => hn (hs t z))
theorem gh_M.up {S : List Nat} {g : GH} {a t : Nat} {e0 e : va_E} (ha : g a = some (t, e0)) (ht : t ∈ S) : gh_M S g (gh_up g a t e) := fun q t1 e1 hq hn => by
  have hne : q ≠ a := fun z => by
    rw [z, ha] at hq
    cases hq
    exact hn ht
  rw [gh_un hne]
  exact hq
theorem gh_M.nw {S : List Nat} {g : GH} {a t : Nat} {e : va_E} (ha : g a = none) : gh_M S g (gh_up g a t e) := fun q t1 e1 hq hn => by
  have hne : q ≠ a := fun z => by rw [z, ha] at hq; cases hq
  rw [gh_un hne]
  exact hq
/-- what a method may change, by addresses -/
def gh_N (S : List Nat) (g g' : GH) : Prop := ∀ q : Nat, q ∉ S → g q ≠ none → g' q = g q
theorem gh_N.rf {S : List Nat} {g : GH} : gh_N S g g := fun _ _ _ => rfl
theorem gh_N.tr {S : List Nat} {g1 g2 g3 : GH} (h1 : gh_N S g1 g2) (h2 : gh_N S g2 g3) : gh_N S g1 g3 := fun q hq hn => by
  have e := h1 q hq hn
  rw [h2 q hq (by rw [e]; exact hn), e]
theorem gh_N.up {S : List Nat} {g : GH} {a t : Nat} {e : va_E} (ha : a ∈ S) : gh_N S g (gh_up g a t e) := fun q hq _ => gh_un (fun z => hq (z ▸ ha))
theorem gh_N.nw {S : List Nat} {g : GH} {a t : Nat} {e : va_E} (ha : g a = none) : gh_N S g (gh_up g a t e) := fun q _ hn => gh_un (fun z => hn (z ▸ ha))
theorem gh_N.wd {S S' : List Nat} {g g' : GH} (h : gh_N S g g') (hs : ∀ a, a ∈ S → a ∈ S') : gh_N S' g g' := fun q hq hn => h q (fun z => hq (hs q z)) hn
/-- cells that are new don't count -/
theorem gh_N.fresh {S S' : List Nat} {g g1 g' : GH} (h1 : gh_N S g g1) (h : gh_N S' g1 g') (hs : ∀ a, a ∈ S' → a ∈ S ∨ g a = none) : gh_N S g g' := fun q hq hn => by
  have e := h1 q hq hn
  rw [h q (fun z => (hs q z).elim hq hn) (by rw [e]; exact hn), e]
theorem gh_N.M {S T : List Nat} {g g' : GH} (h : gh_N S g g') (hs : ∀ a, a ∈ S → ∃ t e, g a = some (t, e) ∧ t ∈ T) : gh_M T g g' := fun q t e hq hn => by
  rw [h q (fun z => by
    obtain ⟨t1, e1, h1, h2⟩ := hs q z
    rw [hq] at h1
    cases h1
    exact hn h2) (by rw [hq]; exact fun z => by cases z)]
  exact hq
/-- chars in an array -/
def chs (f : Nat → Int32) (xs : List Nat) : Prop := ∀ (i x : Nat), xs[i]? = some x → f i = nI x ∧ x < 65536
theorem chs_nil {f : Nat → Int32} : chs f [] := fun i x h => by simp at h
theorem chs_app {f : Nat → Int32} {xs : List Nat} {c : Nat} (h : chs f xs) (hc : c < 65536) : chs (upd f xs.length (nI c)) (xs ++ [c]) := fun i x hi => by
  by_cases hl : i < xs.length
  · rw [List.getElem?_append_left hl] at hi
    obtain ⟨h1, h2⟩ := h i x hi
    exact ⟨by rw [pk_un (by omega)]; exact h1, h2⟩
  · rw [List.getElem?_append_right (by omega)] at hi
    have hz : i - xs.length < 1 := (List.getElem?_eq_some_iff.mp hi).1
    rw [show i - xs.length = 0 by omega] at hi
    cases hi
    rw [show i = xs.length by omega, pk_us]
    exact ⟨rfl, hc⟩
theorem slice_succ {ys : List Nat} {fr i : Nat} (h : fr + i < ys.length) : (ys.drop fr).take (i + 1) = (ys.drop fr).take i ++ [ys.getD (fr + i) 0] := by
  have hlt : i < (ys.drop fr).length := by rw [List.length_drop]; omega
  rw [List.take_succ_eq_append_getElem hlt, List.getElem_drop, List.getD_eq_getElem?_getD, List.getElem?_eq_getElem h]
  rfl
theorem slice_drop {ys : List Nat} {fr len i : Nat} (h : fr + len ≤ ys.length) (hi : i < len) : ((ys.drop fr).take len).drop i = ys.getD (fr + i) 0 :: ((ys.drop fr).take len).drop (i + 1) := by
  have hlt : i < ((ys.drop fr).take len).length := by rw [List.length_take, List.length_drop]; omega
  rw [List.drop_eq_getElem_cons hlt, List.getElem_take, List.getElem_drop, List.getD_eq_getElem?_getD, List.getElem?_eq_getElem (show fr + i < ys.length by omega)]
  rfl
theorem slice_len {ys : List Nat} {fr len : Nat} (h : fr + len ≤ ys.length) : ((ys.drop fr).take len).length = len := by rw [List.length_take, List.length_drop]; omega
theorem getD_some {ys : List Nat} {i : Nat} (h : i < ys.length) : ys[i]? = some (ys.getD i 0) := by rw [List.getD_eq_getElem?_getD, List.getElem?_eq_getElem h]; rfl
theorem ch_255 {x : Nat} (h : x < 128) : ((nI x &&& nI 255).toUInt32 % 65536).toInt32 = nI x := by
  rw [pk_char, show nI x &&& nI 255 = nI (x % 2 ^ 8) from pk_andN (by omega) 8 (by decide), pk_tn (by omega)]
  congr 1
  omega
theorem take_succD {ys : List Nat} {j : Nat} (h : j < ys.length) : ys.take (j + 1) = ys.take j ++ [ys.getD j 0] := by
  rw [List.take_succ_eq_append_getElem h, List.getD_eq_getElem?_getD, List.getElem?_eq_getElem h]
  rfl
theorem slice_getD {ys : List Nat} {fr len i : Nat} (h : fr + len ≤ ys.length) (hi : i < len) : ((ys.drop fr).take len).getD i 0 = ys.getD (fr + i) 0 := by
  rw [List.getD_eq_getElem?_getD, List.getElem?_take_of_lt hi, List.getElem?_drop, ← List.getD_eq_getElem?_getD]
/-! WORDS IN ORDER: comparison, rank, sorted lists (no machine here) -/
def cmpL : List Nat → List Nat → Int
  | [], ys => -(ys.length : Int)
  | x :: xs, [] => ((x :: xs).length : Int)
  | x :: xs, y :: ys => if x = y then cmpL xs ys else (x : Int) - (y : Int)
theorem cmpL_nil_r : ∀ xs : List Nat, cmpL xs [] = (xs.length : Int)
  | [] => rfl
  | _ :: _ => rfl
theorem cmpL_nil_l (ys : List Nat) : cmpL [] ys = -(ys.length : Int) := by cases ys <;> rfl
theorem cmpL_cons (x y : Nat) (xs ys : List Nat) : cmpL (x :: xs) (y :: ys) = if x = y then cmpL xs ys else (x : Int) - (y : Int) := rfl
theorem cmpL_anti : ∀ a b : List Nat, cmpL a b = - cmpL b a
  | [], b => by rw [cmpL_nil_l, cmpL_nil_r]
  | a :: as, [] => by rw [cmpL_nil_l, cmpL_nil_r]; omega
  | a :: as, b :: bs => by
    rw [cmpL_cons, cmpL_cons]
    by_cases h : a = b
    · rw [if_pos h, if_pos h.symm]; exact cmpL_anti as bs
    · rw [if_neg h, if_neg (fun z => h z.symm)]; omega
theorem cmpL_zero : ∀ a b : List Nat, cmpL a b = 0 ↔ a = b
  | [], [] => by simp [cmpL]
  | [], b :: bs => by
    rw [cmpL_nil_l]
    constructor
    · intro h
      have : ((b :: bs).length : Int) = 0 := by omega
      simp at this
      omega
    · intro h; cases h
  | a :: as, [] => by
    rw [cmpL_nil_r]
    constructor
    · intro h
      simp at h
      omega
    · intro h; cases h
  | a :: as, b :: bs => by
    rw [cmpL_cons]
    by_cases h : a = b
    · rw [if_pos h, cmpL_zero as bs]
      subst h
      simp
    · rw [if_neg h]
      constructor
      · intro z; exact absurd (by omega) h
      · intro z; cases z; exact absurd rfl h
theorem cmpL_trans : ∀ a b c : List Nat, cmpL a b < 0 → cmpL b c < 0 → cmpL a c < 0
  | [], b, c, _, h2 => by
    cases c with
    | nil => rw [cmpL_nil_r] at h2; omega
    | cons z zs => rw [cmpL_nil_l]; simp
  | a :: as, [], c, h1, _ => by rw [cmpL_nil_r] at h1; omega
  | a :: as, b :: bs, [], _, h2 => by rw [cmpL_nil_r] at h2; omega
  | a :: as, b :: bs, c :: cs, h1, h2 => by
    rw [cmpL_cons] at h1 h2 ⊢
    by_cases hab : a = b
    · subst hab
      rw [if_pos rfl] at h1
      by_cases hac : a = c
      · subst hac
        rw [if_pos rfl] at h2 ⊢
        exact cmpL_trans as bs cs h1 h2
      · rw [if_neg hac] at h2 ⊢
        exact h2
    · rw [if_neg hab] at h1
      by_cases hbc : b = c
      · subst hbc
        rw [if_neg hab]
        exact h1
      · rw [if_neg hbc] at h2
        rw [if_neg (by omega)]
        omega
theorem cmpL_self (a : List Nat) : cmpL a a = 0 := (cmpL_zero a a).mpr rfl
/-- strictly in order -/
def srtL : List (List Nat) → Prop
  | [] => True
  | a :: l => (∀ b ∈ l, cmpL a b < 0) ∧ srtL l
def rnkL (w : List Nat) : List (List Nat) → Nat
  | [] => 0
  | a :: l => if cmpL a w < 0 then rnkL w l + 1 else 0
theorem rnkL_le (w : List Nat) : ∀ l : List (List Nat), rnkL w l ≤ l.length
  | [] => Nat.le_refl 0
  | a :: l => by
    have := rnkL_le w l
    rw [rnkL]
    split <;> simp <;> omega
theorem srtL_get : ∀ {l : List (List Nat)} (_ : srtL l) {i j : Nat} {a b : List Nat}, i < j → l[i]? = some a → l[j]? = some b → cmpL a b < 0
  | [], _, i, j, a, b, _, ha, _ => by simp at ha
  | c :: l, h, i, j, a, b, hij, ha, hb => by
    cases j with
    | zero => omega
    | succ j =>
      rw [List.getElem?_cons_succ] at hb
      cases i with
      | zero =>
        rw [List.getElem?_cons_zero] at ha
        cases ha
        exact h.1 b (List.mem_of_getElem? hb)
      | succ i =>
        rw [List.getElem?_cons_succ] at ha
        exact srtL_get h.2 (by omega) ha hb
/-- below the rank the words are less, from it on they aren't -/
theorem rnkL_lt (w : List Nat) : ∀ {l : List (List Nat)} {i : Nat} {a : List Nat}, l[i]? = some a → i < rnkL w l → cmpL a w < 0
  | [], i, a, h, _ => by simp at h
  | c :: l, i, a, h, hi => by
    rw [rnkL] at hi
    split at hi
    · next hc =>
      cases i with
      | zero => rw [List.getElem?_cons_zero] at h; cases h; exact hc
      | succ i => rw [List.getElem?_cons_succ] at h; exact rnkL_lt w h (by omega)
    · omega
theorem rnkL_ge (w : List Nat) : ∀ {l : List (List Nat)} (_ : srtL l) {i : Nat} {a : List Nat}, l[i]? = some a → rnkL w l ≤ i → ¬ cmpL a w < 0
  | [], _, i, a, h, _ => by simp at h
  | c :: l, hs, i, a, h, hi => by
    rw [rnkL] at hi
    split at hi
    · next hc =>
      cases i with
      | zero => omega
      | succ i => rw [List.getElem?_cons_succ] at h; exact rnkL_ge w hs.2 h (by omega)
    · next hc =>
      cases i with
      | zero => rw [List.getElem?_cons_zero] at h; cases h; exact hc
      | succ i =>
        rw [List.getElem?_cons_succ] at h
        intro z
        exact hc (cmpL_trans c a w (hs.1 a (List.mem_of_getElem? h)) z)
theorem rnkL_at (w : List Nat) {l : List (List Nat)} (hs : srtL l) {i : Nat} {a : List Nat} (h : l[i]? = some a) : cmpL a w < 0 ↔ i < rnkL w l := by
  constructor
  · intro z
    rcases Nat.lt_or_ge i (rnkL w l) with q | q
    · exact q
    · exact absurd z (rnkL_ge w hs h q)
  · exact rnkL_lt w h
/-- the word is there iff it stands at its rank -/
theorem rnkL_mem (w : List Nat) {l : List (List Nat)} (hs : srtL l) : w ∈ l ↔ l[rnkL w l]? = some w := by
  constructor
  · intro h
    obtain ⟨i, hi⟩ := List.getElem?_of_mem h
    have h1 : ¬ i < rnkL w l := fun z => by
      have := rnkL_lt w hi z
      rw [cmpL_self] at this
      omega
    rcases Nat.lt_or_ge (rnkL w l) i with q | q
    · have hlt : rnkL w l < l.length := Nat.lt_trans q (List.getElem?_eq_some_iff.mp hi).1
      obtain ⟨b, hb⟩ : ∃ b, l[rnkL w l]? = some b := ⟨_, List.getElem?_eq_getElem hlt⟩
      exact absurd (srtL_get hs q hb hi) (rnkL_ge w hs hb (Nat.le_refl _))
    · rw [show rnkL w l = i by omega]
      exact hi
  · exact fun h => List.mem_of_getElem? h
/-- a word more, at its rank -/
def putL (w : List Nat) (l : List (List Nat)) : List (List Nat) := l.take (rnkL w l) ++ w :: l.drop (rnkL w l)
theorem srtL_app : ∀ {l m : List (List Nat)}, srtL (l ++ m) ↔ srtL l ∧ srtL m ∧ ∀ a ∈ l, ∀ b ∈ m, cmpL a b < 0
  | [], m => by simp [srtL]
  | c :: l, m => by
    have ih := srtL_app (l := l) (m := m)
    show ((∀ b ∈ l ++ m, cmpL c b < 0) ∧ srtL (l ++ m)) ↔ _
    rw [ih]
    constructor
    · rintro ⟨h1, h2, h3, h4⟩
      exact ⟨⟨fun b hb => h1 b (List.mem_append_left _ hb), h2⟩, h3, fun a ha b hb => by
        rcases List.mem_cons.mp ha with rfl | ha
        · exact h1 b (List.mem_append_right _ hb)
        · exact h4 a ha b hb⟩
    · rintro ⟨⟨h1, h2⟩, h3, h4⟩
      exact ⟨fun b hb => by
        rcases List.mem_append.mp hb with hb | hb
        · exact h1 b hb
        · exact h4 c List.mem_cons_self b hb, h2, h3, fun a ha b hb => h4 a (List.mem_cons_of_mem _ ha) b hb⟩
theorem srtL_put (w : List Nat) {l : List (List Nat)} (hs : srtL l) (hw : w ∉ l) : srtL (putL w l) := by
  unfold putL
  have e : l = l.take (rnkL w l) ++ l.drop (rnkL w l) := (List.take_append_drop _ _).symm
  have hs2 := hs
  rw [e] at hs2
  obtain ⟨h1, h2, h3⟩ := srtL_app.mp hs2
  refine srtL_app.mpr ⟨h1, ⟨fun b hb => ?_, h2⟩, fun a ha b hb => ?_⟩
  · obtain ⟨i, hi⟩ := List.getElem?_of_mem hb
    rw [List.getElem?_drop] at hi
    have h4 := rnkL_ge w hs hi (by omega)
    have h5 : cmpL b w ≠ 0 := fun z => hw ((cmpL_zero b w).mp z ▸ List.mem_of_getElem? hi)
    have h6 := cmpL_anti b w
    omega
  · obtain ⟨i, hi⟩ := List.getElem?_of_mem ha
    have hlt : i < rnkL w l := by
      have := (List.getElem?_eq_some_iff.mp hi).1
      rw [List.length_take] at this
      omega
    rw [List.getElem?_take_of_lt hlt] at hi
    have h4 := rnkL_lt w hi hlt
    rcases List.mem_cons.mp hb with rfl | hb
    · exact h4
    · exact h3 a ha b hb
theorem putL_mem (w : List Nat) (l : List (List Nat)) (x : List Nat) : x ∈ putL w l ↔ x = w ∨ x ∈ l := by
  unfold putL
  have e : l = l.take (rnkL w l) ++ l.drop (rnkL w l) := (List.take_append_drop _ _).symm
  constructor
  · intro h
    rcases List.mem_append.mp h with h | h
    · exact Or.inr (List.mem_of_mem_take h)
    · rcases List.mem_cons.mp h with h | h
      · exact Or.inl h
      · exact Or.inr (List.mem_of_mem_drop h)
  · rintro (h | h)
    · rw [h]; exact List.mem_append_right _ List.mem_cons_self
    · rw [e] at h
      rcases List.mem_append.mp h with h | h
      · exact List.mem_append_left _ h
      · exact List.mem_append_right _ (List.mem_cons_of_mem _ h)
/-- two lists in order with the same words are one -/
theorem srtL_ext : ∀ {l m : List (List Nat)}, srtL l → srtL m → (∀ x, x ∈ l ↔ x ∈ m) → l = m
  | [], [], _, _, _ => rfl
  | [], b :: m, _, _, h => absurd ((h b).mpr List.mem_cons_self) List.not_mem_nil
  | a :: l, [], _, _, h => absurd ((h a).mp List.mem_cons_self) List.not_mem_nil
  | a :: l, b :: m, h1, h2, h => by
    have hab : a = b := by
      rcases List.mem_cons.mp ((h a).mp List.mem_cons_self) with q | q
      · exact q
      · rcases List.mem_cons.mp ((h b).mpr List.mem_cons_self) with z | z
        · exact z.symm
        · have z1 := h2.1 a q
          have z2 := h1.1 b z
          have z3 := cmpL_anti a b
          omega
    subst hab
    have key : ∀ x, x ∈ l ↔ x ∈ m := by
      intro x
      constructor
      · intro hx
        rcases List.mem_cons.mp ((h x).mp (List.mem_cons_of_mem _ hx)) with q | q
        · subst q
          have := h1.1 x hx
          rw [cmpL_self] at this
          omega
        · exact q
      · intro hx
        rcases List.mem_cons.mp ((h x).mpr (List.mem_cons_of_mem _ hx)) with q | q
        · subst q
          have := h2.1 x hx
          rw [cmpL_self] at this
          omega
        · exact q
    rw [srtL_ext h1.2 h2.2 key]
/-! inserting into a list -/
def insA {α : Type} (l : List α) (r : Nat) (x : α) : List α := l.take r ++ x :: l.drop r
theorem insA_len {α : Type} {l : List α} {r : Nat} {x : α} (h : r ≤ l.length) : (insA l r x).length = l.length + 1 := by
  unfold insA
  rw [List.length_append, List.length_take, List.length_cons, List.length_drop]
  omega
theorem insA_lt {α : Type} {l : List α} {r i : Nat} {x : α} (h : r ≤ l.length) (hi : i < r) : (insA l r x)[i]? = l[i]? := by
  unfold insA
  rw [List.getElem?_append_left (by rw [List.length_take]; omega), List.getElem?_take_of_lt hi]
theorem insA_eq {α : Type} {l : List α} {r : Nat} {x : α} (h : r ≤ l.length) : (insA l r x)[r]? = some x := by
  unfold insA
  rw [List.getElem?_append_right (by rw [List.length_take]; omega), List.length_take, show r - min r l.length = 0 by omega]
  rfl
theorem insA_gt {α : Type} {l : List α} {r i : Nat} {x : α} (h : r ≤ l.length) (hi : r < i) : (insA l r x)[i]? = l[i - 1]? := by
  unfold insA
  rw [List.getElem?_append_right (by rw [List.length_take]; omega), List.length_take, show i - min r l.length = (i - r - 1) + 1 by omega, List.getElem?_cons_succ, List.getElem?_drop]
  congr 1
  omega
theorem insA_map {α β : Type} (f : α → β) (l : List α) (r : Nat) (x : α) : (insA l r x).map f = insA (l.map f) r (f x) := by
  unfold insA
  rw [List.map_append, List.map_cons, List.map_take, List.map_drop]
theorem insA_mem {α : Type} {l : List α} {r : Nat} {x y : α} (h : y ∈ insA l r x) : y ∈ l ∨ y = x := by
  rcases List.mem_append.mp h with h | h
  · exact Or.inl (List.mem_of_mem_take h)
  · rcases List.mem_cons.mp h with h | h
    · exact Or.inr h
    · exact Or.inl (List.mem_of_mem_drop h)
end
section
abbrev b_Lt_init : ByteArray := prog_4_method_1_code
def y_Lt_init : MethodName := ⟨"SpellDesk$Letters", "<init>", "(I)V"⟩
set_option maxRecDepth 20000 in
theorem Y_Lt_init : gh_Y y_Lt_init b_Lt_init 2 none 1 := ⟨gt_in (i := 44) rfl rfl, gt_in (i := 2) (by decide +kernel) rfl, by decide +kernel, by decide +kernel, by decide +kernel⟩
theorem V_Lt_init : Cond.instanceMethod y_Lt_init ∈ gTbl := (gt_in (i := 43) (by decide +kernel) rfl)
theorem d_Lt_init_0 : decode b_Lt_init 0 = .ok (.aload_n 0, 1) := by decide +kernel
theorem d_Lt_init_1 : decode b_Lt_init 1 = .ok (.invokespecial 1, 3) := by decide +kernel
theorem d_Lt_init_4 : decode b_Lt_init 4 = .ok (.aload_n 0, 1) := by decide +kernel
theorem d_Lt_init_5 : decode b_Lt_init 5 = .ok (.iload_n 1, 1) := by decide +kernel
theorem d_Lt_init_6 : decode b_Lt_init 6 = .ok (.iconst 0, 1) := by decide +kernel
theorem d_Lt_init_7 : decode b_Lt_init 7 = .ok (.invokestatic 7, 3) := by decide +kernel
theorem d_Lt_init_10 : decode b_Lt_init 10 = .ok (.newarray .char, 2) := by decide +kernel
theorem d_Lt_init_12 : decode b_Lt_init 12 = .ok (.putfield 13, 3) := by decide +kernel
theorem d_Lt_init_15 : decode b_Lt_init 15 = .ok (.aload_n 0, 1) := by decide +kernel
theorem d_Lt_init_16 : decode b_Lt_init 16 = .ok (.iconst 0, 1) := by decide +kernel
theorem d_Lt_init_17 : decode b_Lt_init 17 = .ok (.putfield 19, 3) := by decide +kernel
theorem d_Lt_init_20 : decode b_Lt_init 20 = .ok (.return_, 1) := by decide +kernel
abbrev b_Lt_count : ByteArray := prog_4_method_2_code
def y_Lt_count : MethodName := ⟨"SpellDesk$Letters", "count", "()I"⟩
set_option maxRecDepth 20000 in
theorem Y_Lt_count : gh_Y y_Lt_count b_Lt_count 1 (some .int) 0 := ⟨gt_in (i := 271) rfl rfl, gt_in (i := 2) (by decide +kernel) rfl, by decide +kernel, by decide +kernel, by decide +kernel⟩
theorem V_Lt_count : Cond.instanceMethod y_Lt_count ∈ gTbl ∧ Cond.selects y_Lt_count.cls y_Lt_count y_Lt_count ∈ gTbl := ⟨(gt_in (i := 269) (by decide +kernel) rfl), (gt_in (i := 270) (by decide +kernel) rfl)⟩
theorem d_Lt_count_0 : decode b_Lt_count 0 = .ok (.aload_n 0, 1) := by decide +kernel
theorem d_Lt_count_1 : decode b_Lt_count 1 = .ok (.getfield 19, 3) := by decide +kernel
theorem d_Lt_count_4 : decode b_Lt_count 4 = .ok (.ireturn, 1) := by decide +kernel
abbrev b_Lt_at : ByteArray := prog_4_method_3_code
def y_Lt_at : MethodName := ⟨"SpellDesk$Letters", "at", "(I)C"⟩
set_option maxRecDepth 20000 in
theorem Y_Lt_at : gh_Y y_Lt_at b_Lt_at 2 (some .char) 1 := ⟨gt_in (i := 279) rfl rfl, gt_in (i := 2) (by decide +kernel) rfl, by decide +kernel, by decide +kernel, by decide +kernel⟩
theorem V_Lt_at : Cond.instanceMethod y_Lt_at ∈ gTbl ∧ Cond.selects y_Lt_at.cls y_Lt_at y_Lt_at ∈ gTbl := ⟨(gt_in (i := 277) (by decide +kernel) rfl), (gt_in (i := 278) (by decide +kernel) rfl)⟩
theorem d_Lt_at_0 : decode b_Lt_at 0 = .ok (.iload_n 1, 1) := by decide +kernel
theorem d_Lt_at_1 : decode b_Lt_at 1 = .ok (.ifCond .lt 20, 3) := by decide +kernel
theorem d_Lt_at_4 : decode b_Lt_at 4 = .ok (.iload_n 1, 1) := by decide +kernel
theorem d_Lt_at_5 : decode b_Lt_at 5 = .ok (.aload_n 0, 1) := by decide +kernel
theorem d_Lt_at_6 : decode b_Lt_at 6 = .ok (.getfield 19, 3) := by decide +kernel
theorem d_Lt_at_9 : decode b_Lt_at 9 = .ok (.if_icmp .ge 12, 3) := by decide +kernel
theorem d_Lt_at_12 : decode b_Lt_at 12 = .ok (.aload_n 0, 1) := by decide +kernel
theorem d_Lt_at_13 : decode b_Lt_at 13 = .ok (.getfield 13, 3) := by decide +kernel
theorem d_Lt_at_16 : decode b_Lt_at 16 = .ok (.iload_n 1, 1) := by decide +kernel
theorem d_Lt_at_17 : decode b_Lt_at 17 = .ok (.caload, 1) := by decide +kernel
theorem d_Lt_at_18 : decode b_Lt_at 18 = .ok (.goto 4, 3) := by decide +kernel
theorem d_Lt_at_21 : decode b_Lt_at 21 = .ok (.iconst 0, 1) := by decide +kernel
theorem d_Lt_at_22 : decode b_Lt_at 22 = .ok (.ireturn, 1) := by decide +kernel
abbrev b_Lt_compare : ByteArray := prog_4_method_8_code
def y_Lt_compare : MethodName := ⟨"SpellDesk$Letters", "compare", "(IILSpellDesk$Letters;II)I"⟩
set_option maxRecDepth 20000 in
theorem Y_Lt_compare : gh_Y y_Lt_compare b_Lt_compare 9 (some .int) 5 := ⟨gt_in (i := 398) rfl rfl, gt_in (i := 2) (by decide +kernel) rfl, by decide +kernel, by decide +kernel, by decide +kernel⟩
theorem V_Lt_compare : Cond.instanceMethod y_Lt_compare ∈ gTbl ∧ Cond.selects y_Lt_compare.cls y_Lt_compare y_Lt_compare ∈ gTbl := ⟨(gt_in (i := 396) (by decide +kernel) rfl), (gt_in (i := 397) (by decide +kernel) rfl)⟩
theorem d_Lt_compare_0 : decode b_Lt_compare 0 = .ok (.iconst 0, 1) := by decide +kernel
theorem d_Lt_compare_1 : decode b_Lt_compare 1 = .ok (.istore 6, 2) := by decide +kernel
theorem d_Lt_compare_3 : decode b_Lt_compare 3 = .ok (.iload 6, 2) := by decide +kernel
theorem d_Lt_compare_5 : decode b_Lt_compare 5 = .ok (.iload_n 2, 1) := by decide +kernel
theorem d_Lt_compare_6 : decode b_Lt_compare 6 = .ok (.if_icmp .ge 93, 3) := by decide +kernel
theorem d_Lt_compare_9 : decode b_Lt_compare 9 = .ok (.iload 6, 2) := by decide +kernel
theorem d_Lt_compare_11 : decode b_Lt_compare 11 = .ok (.iload 5, 2) := by decide +kernel
theorem d_Lt_compare_13 : decode b_Lt_compare 13 = .ok (.if_icmp .ge 86, 3) := by decide +kernel
theorem d_Lt_compare_16 : decode b_Lt_compare 16 = .ok (.iload_n 1, 1) := by decide +kernel
theorem d_Lt_compare_17 : decode b_Lt_compare 17 = .ok (.iload 6, 2) := by decide +kernel
theorem d_Lt_compare_19 : decode b_Lt_compare 19 = .ok (.iadd, 1) := by decide +kernel
theorem d_Lt_compare_20 : decode b_Lt_compare 20 = .ok (.istore 7, 2) := by decide +kernel
theorem d_Lt_compare_22 : decode b_Lt_compare 22 = .ok (.iload 4, 2) := by decide +kernel
theorem d_Lt_compare_24 : decode b_Lt_compare 24 = .ok (.iload 6, 2) := by decide +kernel
theorem d_Lt_compare_26 : decode b_Lt_compare 26 = .ok (.iadd, 1) := by decide +kernel
theorem d_Lt_compare_27 : decode b_Lt_compare 27 = .ok (.istore 8, 2) := by decide +kernel
theorem d_Lt_compare_29 : decode b_Lt_compare 29 = .ok (.iload 7, 2) := by decide +kernel
theorem d_Lt_compare_31 : decode b_Lt_compare 31 = .ok (.ifCond .lt 68, 3) := by decide +kernel
theorem d_Lt_compare_34 : decode b_Lt_compare 34 = .ok (.iload 7, 2) := by decide +kernel
theorem d_Lt_compare_36 : decode b_Lt_compare 36 = .ok (.aload_n 0, 1) := by decide +kernel
theorem d_Lt_compare_37 : decode b_Lt_compare 37 = .ok (.getfield 19, 3) := by decide +kernel
theorem d_Lt_compare_40 : decode b_Lt_compare 40 = .ok (.if_icmp .ge 59, 3) := by decide +kernel
theorem d_Lt_compare_43 : decode b_Lt_compare 43 = .ok (.iload 8, 2) := by decide +kernel
theorem d_Lt_compare_45 : decode b_Lt_compare 45 = .ok (.ifCond .lt 54, 3) := by decide +kernel
theorem d_Lt_compare_48 : decode b_Lt_compare 48 = .ok (.iload 8, 2) := by decide +kernel
theorem d_Lt_compare_50 : decode b_Lt_compare 50 = .ok (.aload_n 3, 1) := by decide +kernel
theorem d_Lt_compare_51 : decode b_Lt_compare 51 = .ok (.getfield 19, 3) := by decide +kernel
theorem d_Lt_compare_54 : decode b_Lt_compare 54 = .ok (.if_icmp .lt 6, 3) := by decide +kernel
theorem d_Lt_compare_57 : decode b_Lt_compare 57 = .ok (.goto 42, 3) := by decide +kernel
theorem d_Lt_compare_60 : decode b_Lt_compare 60 = .ok (.aload_n 0, 1) := by decide +kernel
theorem d_Lt_compare_61 : decode b_Lt_compare 61 = .ok (.getfield 13, 3) := by decide +kernel
theorem d_Lt_compare_64 : decode b_Lt_compare 64 = .ok (.iload 7, 2) := by decide +kernel
theorem d_Lt_compare_66 : decode b_Lt_compare 66 = .ok (.caload, 1) := by decide +kernel
theorem d_Lt_compare_67 : decode b_Lt_compare 67 = .ok (.aload_n 3, 1) := by decide +kernel
theorem d_Lt_compare_68 : decode b_Lt_compare 68 = .ok (.getfield 13, 3) := by decide +kernel
theorem d_Lt_compare_71 : decode b_Lt_compare 71 = .ok (.iload 8, 2) := by decide +kernel
theorem d_Lt_compare_73 : decode b_Lt_compare 73 = .ok (.caload, 1) := by decide +kernel
theorem d_Lt_compare_74 : decode b_Lt_compare 74 = .ok (.if_icmp .eq 19, 3) := by decide +kernel
theorem d_Lt_compare_77 : decode b_Lt_compare 77 = .ok (.aload_n 0, 1) := by decide +kernel
theorem d_Lt_compare_78 : decode b_Lt_compare 78 = .ok (.getfield 13, 3) := by decide +kernel
theorem d_Lt_compare_81 : decode b_Lt_compare 81 = .ok (.iload 7, 2) := by decide +kernel
theorem d_Lt_compare_83 : decode b_Lt_compare 83 = .ok (.caload, 1) := by decide +kernel
theorem d_Lt_compare_84 : decode b_Lt_compare 84 = .ok (.aload_n 3, 1) := by decide +kernel
theorem d_Lt_compare_85 : decode b_Lt_compare 85 = .ok (.getfield 13, 3) := by decide +kernel
theorem d_Lt_compare_88 : decode b_Lt_compare 88 = .ok (.iload 8, 2) := by decide +kernel
theorem d_Lt_compare_90 : decode b_Lt_compare 90 = .ok (.caload, 1) := by decide +kernel
theorem d_Lt_compare_91 : decode b_Lt_compare 91 = .ok (.isub, 1) := by decide +kernel
theorem d_Lt_compare_92 : decode b_Lt_compare 92 = .ok (.ireturn, 1) := by decide +kernel
theorem d_Lt_compare_93 : decode b_Lt_compare 93 = .ok (.iinc 6 1, 3) := by decide +kernel
theorem d_Lt_compare_96 : decode b_Lt_compare 96 = .ok (.goto (-93), 3) := by decide +kernel
theorem d_Lt_compare_99 : decode b_Lt_compare 99 = .ok (.iload_n 2, 1) := by decide +kernel
theorem d_Lt_compare_100 : decode b_Lt_compare 100 = .ok (.iload 5, 2) := by decide +kernel
theorem d_Lt_compare_102 : decode b_Lt_compare 102 = .ok (.isub, 1) := by decide +kernel
theorem d_Lt_compare_103 : decode b_Lt_compare 103 = .ok (.ireturn, 1) := by decide +kernel
abbrev b_Lt_append : ByteArray := prog_4_method_4_code
def y_Lt_append : MethodName := ⟨"SpellDesk$Letters", "append", "(C)Z"⟩
set_option maxRecDepth 20000 in
theorem Y_Lt_append : gh_Y y_Lt_append b_Lt_append 2 (some .boolean) 1 := ⟨gt_in (i := 421) rfl rfl, gt_in (i := 2) (by decide +kernel) rfl, by decide +kernel, by decide +kernel, by decide +kernel⟩
theorem V_Lt_append : Cond.instanceMethod y_Lt_append ∈ gTbl ∧ Cond.selects y_Lt_append.cls y_Lt_append y_Lt_append ∈ gTbl := ⟨(gt_in (i := 419) (by decide +kernel) rfl), (gt_in (i := 420) (by decide +kernel) rfl)⟩
theorem d_Lt_append_0 : decode b_Lt_append 0 = .ok (.aload_n 0, 1) := by decide +kernel
theorem d_Lt_append_1 : decode b_Lt_append 1 = .ok (.getfield 19, 3) := by decide +kernel
theorem d_Lt_append_4 : decode b_Lt_append 4 = .ok (.aload_n 0, 1) := by decide +kernel
theorem d_Lt_append_5 : decode b_Lt_append 5 = .ok (.getfield 13, 3) := by decide +kernel
theorem d_Lt_append_8 : decode b_Lt_append 8 = .ok (.arraylength, 1) := by decide +kernel
theorem d_Lt_append_9 : decode b_Lt_append 9 = .ok (.if_icmp .lt 5, 3) := by decide +kernel
theorem d_Lt_append_12 : decode b_Lt_append 12 = .ok (.iconst 0, 1) := by decide +kernel
theorem d_Lt_append_13 : decode b_Lt_append 13 = .ok (.ireturn, 1) := by decide +kernel
theorem d_Lt_append_14 : decode b_Lt_append 14 = .ok (.aload_n 0, 1) := by decide +kernel
theorem d_Lt_append_15 : decode b_Lt_append 15 = .ok (.getfield 13, 3) := by decide +kernel
theorem d_Lt_append_18 : decode b_Lt_append 18 = .ok (.aload_n 0, 1) := by decide +kernel
theorem d_Lt_append_19 : decode b_Lt_append 19 = .ok (.getfield 19, 3) := by decide +kernel
theorem d_Lt_append_22 : decode b_Lt_append 22 = .ok (.iload_n 1, 1) := by decide +kernel
theorem d_Lt_append_23 : decode b_Lt_append 23 = .ok (.castore, 1) := by decide +kernel
theorem d_Lt_append_24 : decode b_Lt_append 24 = .ok (.aload_n 0, 1) := by decide +kernel
theorem d_Lt_append_25 : decode b_Lt_append 25 = .ok (.dup, 1) := by decide +kernel
theorem d_Lt_append_26 : decode b_Lt_append 26 = .ok (.getfield 19, 3) := by decide +kernel
theorem d_Lt_append_29 : decode b_Lt_append 29 = .ok (.iconst 1, 1) := by decide +kernel
theorem d_Lt_append_30 : decode b_Lt_append 30 = .ok (.iadd, 1) := by decide +kernel
theorem d_Lt_append_31 : decode b_Lt_append 31 = .ok (.putfield 19, 3) := by decide +kernel
theorem d_Lt_append_34 : decode b_Lt_append 34 = .ok (.iconst 1, 1) := by decide +kernel
theorem d_Lt_append_35 : decode b_Lt_append 35 = .ok (.ireturn, 1) := by decide +kernel
abbrev b_Lt_copy : ByteArray := prog_4_method_7_code
def y_Lt_copy : MethodName := ⟨"SpellDesk$Letters", "copy", "(II)LSpellDesk$Letters;"⟩
set_option maxRecDepth 20000 in
theorem Y_Lt_copy : gh_Y y_Lt_copy b_Lt_copy 5 (some (.object "SpellDesk$Letters")) 2 := ⟨gt_in (i := 432) rfl rfl, gt_in (i := 2) (by decide +kernel) rfl, by decide +kernel, by decide +kernel, by decide +kernel⟩
theorem V_Lt_copy : Cond.instanceMethod y_Lt_copy ∈ gTbl ∧ Cond.selects y_Lt_copy.cls y_Lt_copy y_Lt_copy ∈ gTbl := ⟨(gt_in (i := 430) (by decide +kernel) rfl), (gt_in (i := 431) (by decide +kernel) rfl)⟩
theorem d_Lt_copy_0 : decode b_Lt_copy 0 = .ok (.new 14, 3) := by decide +kernel
theorem d_Lt_copy_3 : decode b_Lt_copy 3 = .ok (.dup, 1) := by decide +kernel
theorem d_Lt_copy_4 : decode b_Lt_copy 4 = .ok (.iload_n 2, 1) := by decide +kernel
theorem d_Lt_copy_5 : decode b_Lt_copy 5 = .ok (.invokespecial 31, 3) := by decide +kernel
theorem d_Lt_copy_8 : decode b_Lt_copy 8 = .ok (.astore_n 3, 1) := by decide +kernel
theorem d_Lt_copy_9 : decode b_Lt_copy 9 = .ok (.iconst 0, 1) := by decide +kernel
theorem d_Lt_copy_10 : decode b_Lt_copy 10 = .ok (.istore 4, 2) := by decide +kernel
theorem d_Lt_copy_12 : decode b_Lt_copy 12 = .ok (.iload 4, 2) := by decide +kernel
theorem d_Lt_copy_14 : decode b_Lt_copy 14 = .ok (.iload_n 2, 1) := by decide +kernel
theorem d_Lt_copy_15 : decode b_Lt_copy 15 = .ok (.if_icmp .ge 22, 3) := by decide +kernel
theorem d_Lt_copy_18 : decode b_Lt_copy 18 = .ok (.aload_n 3, 1) := by decide +kernel
theorem d_Lt_copy_19 : decode b_Lt_copy 19 = .ok (.aload_n 0, 1) := by decide +kernel
theorem d_Lt_copy_20 : decode b_Lt_copy 20 = .ok (.iload_n 1, 1) := by decide +kernel
theorem d_Lt_copy_21 : decode b_Lt_copy 21 = .ok (.iload 4, 2) := by decide +kernel
theorem d_Lt_copy_23 : decode b_Lt_copy 23 = .ok (.iadd, 1) := by decide +kernel
theorem d_Lt_copy_24 : decode b_Lt_copy 24 = .ok (.invokevirtual 23, 3) := by decide +kernel
theorem d_Lt_copy_27 : decode b_Lt_copy 27 = .ok (.invokevirtual 27, 3) := by decide +kernel
theorem d_Lt_copy_30 : decode b_Lt_copy 30 = .ok (.pop, 1) := by decide +kernel
theorem d_Lt_copy_31 : decode b_Lt_copy 31 = .ok (.iinc 4 1, 3) := by decide +kernel
theorem d_Lt_copy_34 : decode b_Lt_copy 34 = .ok (.goto (-22), 3) := by decide +kernel
theorem d_Lt_copy_37 : decode b_Lt_copy 37 = .ok (.aload_n 3, 1) := by decide +kernel
theorem d_Lt_copy_38 : decode b_Lt_copy 38 = .ok (.areturn, 1) := by decide +kernel
abbrev b_Lt_clear : ByteArray := prog_4_method_6_code
def y_Lt_clear : MethodName := ⟨"SpellDesk$Letters", "clear", "()V"⟩
set_option maxRecDepth 20000 in
theorem Y_Lt_clear : gh_Y y_Lt_clear b_Lt_clear 1 none 0 := ⟨gt_in (i := 935) rfl rfl, gt_in (i := 2) (by decide +kernel) rfl, by decide +kernel, by decide +kernel, by decide +kernel⟩
theorem V_Lt_clear : Cond.instanceMethod y_Lt_clear ∈ gTbl ∧ Cond.selects y_Lt_clear.cls y_Lt_clear y_Lt_clear ∈ gTbl := ⟨(gt_in (i := 933) (by decide +kernel) rfl), (gt_in (i := 934) (by decide +kernel) rfl)⟩
theorem d_Lt_clear_0 : decode b_Lt_clear 0 = .ok (.aload_n 0, 1) := by decide +kernel
theorem d_Lt_clear_1 : decode b_Lt_clear 1 = .ok (.iconst 0, 1) := by decide +kernel
theorem d_Lt_clear_2 : decode b_Lt_clear 2 = .ok (.putfield 19, 3) := by decide +kernel
theorem d_Lt_clear_5 : decode b_Lt_clear 5 = .ok (.return_, 1) := by decide +kernel
abbrev b_Lt_appendAll : ByteArray := prog_4_method_5_code
def y_Lt_appendAll : MethodName := ⟨"SpellDesk$Letters", "appendAll", "(LSpellDesk$Letters;II)V"⟩
set_option maxRecDepth 20000 in
theorem Y_Lt_appendAll : gh_Y y_Lt_appendAll b_Lt_appendAll 5 none 3 := ⟨gt_in (i := 939) rfl rfl, gt_in (i := 2) (by decide +kernel) rfl, by decide +kernel, by decide +kernel, by decide +kernel⟩
theorem V_Lt_appendAll : Cond.instanceMethod y_Lt_appendAll ∈ gTbl ∧ Cond.selects y_Lt_appendAll.cls y_Lt_appendAll y_Lt_appendAll ∈ gTbl := ⟨(gt_in (i := 937) (by decide +kernel) rfl), (gt_in (i := 938) (by decide +kernel) rfl)⟩
theorem d_Lt_appendAll_0 : decode b_Lt_appendAll 0 = .ok (.iconst 0, 1) := by decide +kernel
theorem d_Lt_appendAll_1 : decode b_Lt_appendAll 1 = .ok (.istore 4, 2) := by decide +kernel
theorem d_Lt_appendAll_3 : decode b_Lt_appendAll 3 = .ok (.iload 4, 2) := by decide +kernel
theorem d_Lt_appendAll_5 : decode b_Lt_appendAll 5 = .ok (.iload_n 3, 1) := by decide +kernel
theorem d_Lt_appendAll_6 : decode b_Lt_appendAll 6 = .ok (.if_icmp .ge 22, 3) := by decide +kernel
theorem d_Lt_appendAll_9 : decode b_Lt_appendAll 9 = .ok (.aload_n 0, 1) := by decide +kernel
theorem d_Lt_appendAll_10 : decode b_Lt_appendAll 10 = .ok (.aload_n 1, 1) := by decide +kernel
theorem d_Lt_appendAll_11 : decode b_Lt_appendAll 11 = .ok (.iload_n 2, 1) := by decide +kernel
theorem d_Lt_appendAll_12 : decode b_Lt_appendAll 12 = .ok (.iload 4, 2) := by decide +kernel
theorem d_Lt_appendAll_14 : decode b_Lt_appendAll 14 = .ok (.iadd, 1) := by decide +kernel
theorem d_Lt_appendAll_15 : decode b_Lt_appendAll 15 = .ok (.invokevirtual 23, 3) := by decide +kernel
theorem d_Lt_appendAll_18 : decode b_Lt_appendAll 18 = .ok (.invokevirtual 27, 3) := by decide +kernel
theorem d_Lt_appendAll_21 : decode b_Lt_appendAll 21 = .ok (.pop, 1) := by decide +kernel
theorem d_Lt_appendAll_22 : decode b_Lt_appendAll 22 = .ok (.iinc 4 1, 3) := by decide +kernel
theorem d_Lt_appendAll_25 : decode b_Lt_appendAll 25 = .ok (.goto (-22), 3) := by decide +kernel
theorem d_Lt_appendAll_28 : decode b_Lt_appendAll 28 = .ok (.return_, 1) := by decide +kernel
theorem kf_Lt_13 : Cond.fieldLink "SpellDesk$Letters" 13 "SpellDesk$Letters" "row" "[C" ∈ gTbl := (gt_in (i := 49) (by decide +kernel) rfl)
theorem kf_Lt_19 : Cond.fieldLink "SpellDesk$Letters" 19 "SpellDesk$Letters" "count" "I" ∈ gTbl := (gt_in (i := 50) (by decide +kernel) rfl)
theorem kc_Lt_14 : Cond.classLink "SpellDesk$Letters" 14 "SpellDesk$Letters" ∈ gTbl := (gt_in (i := 433) (by decide +kernel) rfl)
theorem km_Lt_1 : Cond.methodLink "SpellDesk$Letters" 1 ⟨"java/lang/Object", "<init>", "()V"⟩ ∈ gTbl := (gt_in (i := 45) (by decide +kernel) rfl)
theorem km_Lt_7 : Cond.methodLink "SpellDesk$Letters" 7 ⟨"java/lang/Math", "max", "(II)I"⟩ ∈ gTbl := (gt_in (i := 46) (by decide +kernel) rfl)
theorem km_Lt_23 : Cond.methodLink "SpellDesk$Letters" 23 ⟨"SpellDesk$Letters", "at", "(I)C"⟩ ∈ gTbl := (gt_in (i := 435) (by decide +kernel) rfl)
theorem km_Lt_27 : Cond.methodLink "SpellDesk$Letters" 27 ⟨"SpellDesk$Letters", "append", "(C)Z"⟩ ∈ gTbl := (gt_in (i := 436) (by decide +kernel) rfl)
theorem km_Lt_31 : Cond.methodLink "SpellDesk$Letters" 31 ⟨"SpellDesk$Letters", "<init>", "(I)V"⟩ ∈ gTbl := (gt_in (i := 434) (by decide +kernel) rfl)
abbrev b_Mt_max : ByteArray := prog_21_method_65_code
def y_Mt_max : MethodName := ⟨"java/lang/Math", "max", "(II)I"⟩
set_option maxRecDepth 20000 in
theorem Y_Mt_max : gh_Y y_Mt_max b_Mt_max 2 (some .int) 2 := ⟨gt_in (i := 48) rfl rfl, gt_in (i := 3) (by decide +kernel) rfl, by decide +kernel, by decide +kernel, by decide +kernel⟩
theorem V_Mt_max : Cond.static y_Mt_max ∈ gTbl := (gt_in (i := 47) (by decide +kernel) rfl)
theorem d_Mt_max_0 : decode b_Mt_max 0 = .ok (.iload_n 0, 1) := by decide +kernel
theorem d_Mt_max_1 : decode b_Mt_max 1 = .ok (.iload_n 1, 1) := by decide +kernel
theorem d_Mt_max_2 : decode b_Mt_max 2 = .ok (.if_icmp .lt 7, 3) := by decide +kernel
theorem d_Mt_max_5 : decode b_Mt_max 5 = .ok (.iload_n 0, 1) := by decide +kernel
theorem d_Mt_max_6 : decode b_Mt_max 6 = .ok (.goto 4, 3) := by decide +kernel
theorem d_Mt_max_9 : decode b_Mt_max 9 = .ok (.iload_n 1, 1) := by decide +kernel
theorem d_Mt_max_10 : decode b_Mt_max 10 = .ok (.ireturn, 1) := by decide +kernel
end
section
/-! LETTERS: a row of characters -/
def rmk (f c s l : Nat) : Room := { frames := f, cells := c, slots := s, locals := l }
/-- the object at a (tag t), its array at b (tag u), of cap places, n of them used -/
def LtA (G : GG) (g : GH) (a t b u cap n : Nat) (f : Nat → Int32) : Prop := g a = some (t, .inr (3, [.ref b, .int (nI n)])) ∧ g b = some (u, .inl (G.2.1 0, cap, .inl f)) ∧ n ≤ cap ∧ cap < 65536
def Lt (G : GG) (g : GH) (a t b u cap : Nat) (xs : List Nat) : Prop := ∃ f, LtA G g a t b u cap xs.length f ∧ chs f xs
theorem Lt.ne {G : GG} {g : GH} {a t b u cap : Nat} {xs : List Nat} (h : Lt G g a t b u cap xs) : a ≠ b := fun z => by
  obtain ⟨f, ⟨h1, h2, -⟩, -⟩ := h
  rw [z, h2] at h1
  cases h1
theorem Lt.ob {G : GG} {g : GH} {a t b u cap : Nat} {xs : List Nat} (h : Lt G g a t b u cap xs) : g a = some (t, .inr (3, [.ref b, .int (nI xs.length)])) := by
  obtain ⟨f, ⟨h1, -⟩, -⟩ := h
  exact h1
theorem Lt.len {G : GG} {g : GH} {a t b u cap : Nat} {xs : List Nat} (h : Lt G g a t b u cap xs) : xs.length ≤ cap ∧ cap < 65536 := by
  obtain ⟨f, ⟨-, -, h3, h4⟩, -⟩ := h
  exact ⟨h3, h4⟩
theorem Lt.ch {G : GG} {g : GH} {a t b u cap : Nat} {xs : List Nat} (h : Lt G g a t b u cap xs) {i x : Nat} (hi : xs[i]? = some x) : x < 65536 := by
  obtain ⟨f, -, h5⟩ := h
  exact (h5 i x hi).2
theorem Lt.getD {G : GG} {g : GH} {a t b u cap : Nat} {xs : List Nat} (h : Lt G g a t b u cap xs) (i : Nat) : xs.getD i 0 < 65536 := by
  rw [List.getD_eq_getElem?_getD]
  cases hi : xs[i]? with
  | none => exact Nat.succ_pos _
  | some x => exact h.ch hi
theorem Lt.N {G : GG} {g g' : GH} {a t b u cap : Nat} {xs : List Nat} {S : List Nat} (h : Lt G g a t b u cap xs) (hN : gh_N S g g') (ha : a ∉ S) (hb : b ∉ S) : Lt G g' a t b u cap xs := by
  obtain ⟨f, ⟨h1, h2, h3⟩, h5⟩ := h
  exact ⟨f, ⟨by rw [hN a ha (by rw [h1]; exact fun z => by cases z)]; exact h1, by rw [hN b hb (by rw [h2]; exact fun z => by cases z)]; exact h2, h3⟩, h5⟩
theorem Lt.M {G : GG} {g g' : GH} {a t b u cap : Nat} {xs : List Nat} {S : List Nat} (h : Lt G g a t b u cap xs) (hM : gh_M S g g') (ht : t ∉ S) (hu : u ∉ S) : Lt G g' a t b u cap xs := by
  obtain ⟨f, ⟨h1, h2, h3⟩, h5⟩ := h
  exact ⟨f, ⟨hM a t _ h1 ht, hM b u _ h2 hu, h3⟩, h5⟩
set_option maxRecDepth 20000 in
set_option maxHeartbeats 4000000 in
theorem c_Lt_count (l : Launch) (G : GG) {g : GH} {a t b u cap : Nat} {xs : List Nat} (h : Lt G g a t b u cap xs) : gMet l G y_Lt_count b_Lt_count 1 (some .int) (rmk 0 0 0 0) [.ref a] g (fun v g' => v = some (.int (nI xs.length)) ∧ g' = g) := by
  obtain ⟨f, ⟨h1, h2, h3, h4⟩, h5⟩ := h
  refine gMet.of [some (.ref a)] (by decide +kernel) rfl (Nat.le_of_ble_eq_true rfl) rfl (fun X hK hI hE => ?_)
  refine gh_aload_n hK d_Lt_count_0 rfl ?_
  refine gh_get hK d_Lt_count_1 in_Lt rfl h1 1 (by decide) kf_Lt_19 rfl rfl ?_
  exact gh_iret hK hE d_Lt_count_4 (Nat.le_refl _) (Nat.le_refl _) ⟨rfl, rfl⟩
set_option maxRecDepth 20000 in
set_option maxHeartbeats 4000000 in
theorem c_Lt_at (l : Launch) (G : GG) {g : GH} {a t b u cap : Nat} {xs : List Nat} {j : Nat} (h : Lt G g a t b u cap xs) (hj : j < 2 ^ 31) : gMet l G y_Lt_at b_Lt_at 2 (some .char) (rmk 0 0 0 0) [.ref a, .int (nI j)] g (fun v g' => v = some (.int (nI (xs.getD j 0))) ∧ g' = g) := by
  have hc := h.getD j
  obtain ⟨f, ⟨h1, h2, h3, h4⟩, h5⟩ := h
  refine gMet.of [some (.ref a), some (.int (nI j))] (by decide +kernel) rfl (Nat.le_of_ble_eq_true rfl) rfl (fun X hK hI hE => ?_)
  refine gh_iload_n hK d_Lt_at_0 rfl ?_
  refine gh_if_ltN hK d_Lt_at_1 (tgt := 21) (by decide) hj ?_
  refine gh_iload_n hK d_Lt_at_4 rfl ?_
  refine gh_aload_n hK d_Lt_at_5 rfl ?_
  refine gh_get hK d_Lt_at_6 in_Lt rfl h1 1 (by decide) kf_Lt_19 rfl rfl ?_
  refine gh_icmp_geN hK d_Lt_at_9 (tgt := 21) (by decide) hj (by omega) (fun z => ?_) (fun z => ?_)
  · have e : xs.getD j 0 = 0 := by rw [List.getD_eq_getElem?_getD, List.getElem?_eq_none z]; rfl
    refine gh_iconst (v := nI 0) hK d_Lt_at_21 (by decide) ?_
    exact gh_zret (pk_charN (by decide)).1 hK hE d_Lt_at_22 (Nat.le_refl _) (Nat.le_refl _) ⟨by rw [e], rfl⟩
  · have ex : xs[j]? = some (xs.getD j 0) := by rw [List.getD_eq_getElem?_getD, List.getElem?_eq_getElem z]; rfl
    refine gh_aload_n hK d_Lt_at_12 rfl ?_
    refine gh_get hK d_Lt_at_13 in_Lt rfl h1 0 (by decide) kf_Lt_13 rfl rfl ?_
    refine gh_iload_n hK d_Lt_at_16 rfl ?_
    refine gh_caldN (j := j) hK d_Lt_at_17 h2 (t0 := 0) rfl (by omega) (by omega) ?_
    rw [(h5 j _ ex).1]
    refine gh_goto (tgt := 22) hK d_Lt_at_18 (by decide) ?_
    exact gh_zret (pk_charN hc).1 hK hE d_Lt_at_22 (Nat.le_refl _) (Nat.le_refl _) ⟨rfl, rfl⟩
set_option maxRecDepth 20000 in
set_option maxHeartbeats 4000000 in
theorem c_Lt_append (l : Launch) (G : GG) {g : GH} {a t b u cap : Nat} {xs : List Nat} {c : Nat} (h : Lt G g a t b u cap xs) (hc : c < 65536) : gMet l G y_Lt_append b_Lt_append 2 (some .boolean) (rmk 0 0 0 0) [.ref a, .int (nI c)] g (fun v g' => (xs.length < cap → v = some (.int 1) ∧ Lt G g' a t b u cap (xs ++ [c])) ∧ (¬ xs.length < cap → v = some (.int 0) ∧ g' = g) ∧ gh_N [a, b] g g') := by
  have hab := h.ne
  obtain ⟨f, ⟨h1, h2, h3, h4⟩, h5⟩ := h
  refine gMet.of [some (.ref a), some (.int (nI c))] (by decide +kernel) rfl (Nat.le_of_ble_eq_true rfl) rfl (fun X hK hI hE => ?_)
  refine gh_aload_n hK d_Lt_append_0 rfl ?_
  refine gh_get hK d_Lt_append_1 in_Lt rfl h1 1 (by decide) kf_Lt_19 rfl rfl ?_
  refine gh_aload_n hK d_Lt_append_4 rfl ?_
  refine gh_get hK d_Lt_append_5 in_Lt rfl h1 0 (by decide) kf_Lt_13 rfl rfl ?_
  refine gh_alen (v := nI cap) hK d_Lt_append_8 h2 (t0 := 0) rfl rfl ?_
  refine gh_icmp_ltN hK d_Lt_append_9 (tgt := 14) (by decide) (by omega) (by omega) (fun z => ?_) (fun z => ?_)
  · refine gh_aload_n hK d_Lt_append_14 rfl ?_
    refine gh_get hK d_Lt_append_15 in_Lt rfl h1 0 (by decide) kf_Lt_13 rfl rfl ?_
    refine gh_aload_n hK d_Lt_append_18 rfl ?_
    refine gh_get hK d_Lt_append_19 in_Lt rfl h1 1 (by decide) kf_Lt_19 rfl rfl ?_
    refine gh_iload_n hK d_Lt_append_22 rfl ?_
    refine gh_castN hK d_Lt_append_23 h2 (t0 := 0) rfl z (by omega) hc ?_
    have h1 : gh_up g b u (.inl (G.2.1 0, cap, .inl (upd f xs.length (nI c)))) a = some (t, .inr (3, [.ref b, .int (nI xs.length)])) := by rw [gh_un hab]; exact h1
    refine gh_aload_n hK d_Lt_append_24 rfl ?_
    refine gh_dup hK d_Lt_append_25 rfl ?_
    refine gh_get hK d_Lt_append_26 in_Lt rfl h1 1 (by decide) kf_Lt_19 rfl rfl ?_
    refine gh_iconst (v := nI 1) hK d_Lt_append_29 (by decide) ?_
    refine gh_addN hK d_Lt_append_30 ?_
    refine gh_put hK d_Lt_append_31 in_Lt t_Lt ty_Lt nm_Lt rfl h1 1 (by decide) kf_Lt_19 rfl rfl rfl rfl (Nat.le_of_ble_eq_true rfl) rfl ?_
    refine gh_iconst (v := nI 1) hK d_Lt_append_34 (by decide) ?_
    refine gh_zret rfl hK hE d_Lt_append_35 (Nat.le_refl _) (Nat.le_refl _) ⟨fun _ => ⟨rfl, upd f xs.length (nI c), ⟨?_, ?_, ?_, h4⟩, chs_app h5 hc⟩, fun q => absurd z q, gh_N.tr (gh_N.up (by simp)) (gh_N.up (by simp))⟩
    · rw [gh_us, List.length_append]; rfl
    · rw [gh_un (fun q => hab q.symm), gh_us]
    · rw [List.length_append]; exact z
  · refine gh_iconst (v := nI 0) hK d_Lt_append_12 (by decide) ?_
    exact gh_zret rfl hK hE d_Lt_append_13 (Nat.le_refl _) (Nat.le_refl _) ⟨fun q => absurd q (by omega), fun _ => ⟨rfl, rfl⟩, gh_N.rf⟩
set_option maxRecDepth 20000 in
set_option maxHeartbeats 4000000 in
theorem c_Lt_clear (l : Launch) (G : GG) {g : GH} {a t b u cap : Nat} {xs : List Nat} (h : Lt G g a t b u cap xs) : gMet l G y_Lt_clear b_Lt_clear 1 none (rmk 0 0 0 0) [.ref a] g (fun v g' => v = none ∧ Lt G g' a t b u cap [] ∧ gh_N [a] g g') := by
  have hab := h.ne
  obtain ⟨f, ⟨h1, h2, h3, h4⟩, h5⟩ := h
  refine gMet.of [some (.ref a)] (by decide +kernel) rfl (Nat.le_of_ble_eq_true rfl) rfl (fun X hK hI hE => ?_)
  refine gh_aload_n hK d_Lt_clear_0 rfl ?_
  refine gh_iconst (v := nI 0) hK d_Lt_clear_1 (by decide) ?_
  refine gh_put hK d_Lt_clear_2 in_Lt t_Lt ty_Lt nm_Lt rfl h1 1 (by decide) kf_Lt_19 rfl rfl rfl rfl (Nat.le_of_ble_eq_true rfl) rfl ?_
  exact gh_vret hK hE d_Lt_clear_5 (Nat.le_refl _) (Nat.le_refl _) ⟨rfl, ⟨f, ⟨by rw [gh_us]; rfl, by rw [gh_un (fun q => hab q.symm)]; exact h2, Nat.zero_le _, h4⟩, chs_nil⟩, gh_N.up (by simp)⟩
set_option maxRecDepth 20000 in
set_option maxHeartbeats 4000000 in
theorem c_Mt_max (l : Launch) (G : GG) {g : GH} {i j : Nat} (hi : i < 2 ^ 31) (hj : j < 2 ^ 31) : gMet l G y_Mt_max b_Mt_max 2 (some .int) (rmk 0 0 0 0) [.int (nI i), .int (nI j)] g (fun v g' => v = some (.int (nI (if j ≤ i then i else j))) ∧ g' = g) := by
  refine gMet.of [some (.int (nI i)), some (.int (nI j))] (by decide +kernel) rfl (Nat.le_of_ble_eq_true rfl) rfl (fun X hK hI hE => ?_)
  refine gh_iload_n hK d_Mt_max_0 rfl ?_
  refine gh_iload_n hK d_Mt_max_1 rfl ?_
  refine gh_icmp_ltN hK d_Mt_max_2 (tgt := 9) (by decide) hi hj (fun z => ?_) (fun z => ?_)
  · refine gh_iload_n hK d_Mt_max_9 rfl ?_
    exact gh_iret hK hE d_Mt_max_10 (Nat.le_refl _) (Nat.le_refl _) ⟨by first | rw [if_pos (by omega)] | rw [if_neg (by omega)], rfl⟩
  · refine gh_iload_n hK d_Mt_max_5 rfl ?_
    refine gh_goto (tgt := 10) hK d_Mt_max_6 (by decide) ?_
    exact gh_iret hK hE d_Mt_max_10 (Nat.le_refl _) (Nat.le_refl _) ⟨by first | rw [if_pos (by omega)] | rw [if_neg (by omega)], rfl⟩
set_option maxRecDepth 20000 in
set_option maxHeartbeats 4000000 in
theorem c_Lt_init (l : Launch) (G : GG) {g : GH} {a t cap : Nat} (u : Nat) (h : g a = some (t, .inr (3, [.null, .int 0]))) (hc : cap < 65536) : gMet l G y_Lt_init b_Lt_init 2 none (rmk 1 1 cap 21) [.ref a, .int (nI cap)] g (fun v g' => v = none ∧ ∃ b, g b = none ∧ Lt G g' a t b u cap [] ∧ gh_N [a] g g') := by
  refine gMet.of [some (.ref a), some (.int (nI cap))] (by decide +kernel) rfl (Nat.le_of_ble_eq_true rfl) rfl (fun X hK hI hE => ?_)
  refine gh_aload_n hK d_Lt_init_0 rfl ?_
  refine gh_objInit hK d_Lt_init_1 km_Lt_1 w_oi w_oc rfl (Nat.le_of_ble_eq_true rfl) (Nat.le_of_ble_eq_true rfl) ?_
  refine gh_aload_n hK d_Lt_init_4 rfl ?_
  refine gh_iload_n hK d_Lt_init_5 rfl ?_
  refine gh_iconst (v := nI 0) hK d_Lt_init_6 (by decide) ?_
  refine gh_callS (rest := [.ref a]) [.int (nI cap), .int (nI 0)] hK (c_Mt_max l G (g := g) (i := cap) (j := 0) (by omega) (by decide)) Y_Mt_max V_Mt_max km_Lt_7 rfl d_Lt_init_7 rfl rfl (Nat.le_of_ble_eq_true rfl) ⟨(Nat.le_of_ble_eq_true rfl), (Nat.le_of_ble_eq_true rfl)⟩ ⟨(Nat.le_of_ble_eq_true rfl), Nat.zero_le _⟩ (fun v g' hp => ?_)
  rw [hp.1, hp.2]
  show gh_W l G _ X g _ _ [some (.ref a), some (.int (nI cap))] 10 [.int (nI (if 0 ≤ cap then cap else 0)), .ref a]
  rw [if_pos (Nat.zero_le cap)]
  refine gh_newc (N := cap) (t0 := 0) u hK d_Lt_init_10 rfl w_ac rfl hc (Nat.le_of_ble_eq_true rfl) (by show 0 + 0 + cap ≤ cap; omega) (fun b hb => ?_)
  have hab : a ≠ b := fun z => by rw [z, hb] at h; cases h
  refine gh_putF hK (hI rfl) d_Lt_init_12 in_Lt t_Lt ty_Lt nm_Lt rfl (by rw [gh_un hab]; exact h) 0 (by decide) kf_Lt_13 rfl rfl rfl rfl (Nat.le_of_ble_eq_true rfl) rfl ?_
  refine gh_aload_n hK d_Lt_init_15 rfl ?_
  refine gh_iconst (v := nI 0) hK d_Lt_init_16 (by decide) ?_
  refine gh_put hK d_Lt_init_17 in_Lt t_Lt ty_Lt nm_Lt rfl gh_us 1 (by decide) kf_Lt_19 rfl rfl rfl rfl (Nat.le_of_ble_eq_true rfl) rfl ?_
  refine gh_vret hK hE d_Lt_init_20 (Nat.le_of_ble_eq_true rfl) (by show 0 + 0 + cap ≤ cap; omega) ⟨rfl, b, hb, ⟨fun _ => 0, ⟨by rw [gh_us]; rfl, by rw [gh_un (fun z => hab z.symm), gh_un (fun z => hab z.symm), gh_us], Nat.zero_le _, hc⟩, chs_nil⟩, ?_⟩
  exact gh_N.tr (gh_N.nw hb) (gh_N.tr (gh_N.up (by simp)) (gh_N.up (by simp)))
set_option maxRecDepth 20000 in
set_option maxHeartbeats 4000000 in
theorem c_Lt_appendAll (l : Launch) (G : GG) {g : GH} {a t b u cap : Nat} {xs : List Nat} {sa st sb su scap fr len : Nat} {ys : List Nat} (h : Lt G g a t b u cap xs) (hs : Lt G g sa st sb su scap ys) (hn1 : sa ∉ [a, b]) (hn2 : sb ∉ [a, b]) (hf : fr + len ≤ ys.length) (hc : xs.length + len ≤ cap) : gMet l G y_Lt_appendAll b_Lt_appendAll 5 none (rmk 1 0 0 21) [.ref a, .ref sa, .int (nI fr), .int (nI len)] g (fun v g' => v = none ∧ Lt G g' a t b u cap (xs ++ (ys.drop fr).take len) ∧ gh_N [a, b] g g') := by
  refine gMet.of [some (.ref a), some (.ref sa), some (.int (nI fr)), some (.int (nI len)), none] (by decide +kernel) rfl (Nat.le_of_ble_eq_true rfl) rfl (fun X hK hI hE => ?_)
  obtain ⟨hcap, hcap2⟩ := h.len
  obtain ⟨hsl, hsl2⟩ := hs.len
  have loop : ∀ (m i : Nat) (g1 : GH), i + m = len → Lt G g1 a t b u cap (xs ++ (ys.drop fr).take i) → gh_N [a, b] g g1 → gh_W l G (rmk 1 0 0 21) X g1 0 0 [some (.ref a), some (.ref sa), some (.int (nI fr)), some (.int (nI len)), some (.int (nI i))] 3 [] := by
    intro m
    induction m with
    | zero =>
      intro i g1 hi h1 hN
      obtain rfl : i = len := by omega
      refine gh_iload hK d_Lt_appendAll_3 rfl ?_
      refine gh_iload_n hK d_Lt_appendAll_5 rfl ?_
      refine gh_icmp_geN hK d_Lt_appendAll_6 (tgt := 28) (by decide) (by omega) (by omega) (fun z => ?_) (fun z => absurd z (by omega))
      exact gh_vret hK hE d_Lt_appendAll_28 (Nat.le_of_ble_eq_true rfl) (Nat.le_of_ble_eq_true rfl) ⟨rfl, h1, hN⟩
    | succ m ih =>
      intro i g1 hi h1 hN
      have hs1 := hs.N hN hn1 hn2
      have hl1 : (xs ++ (ys.drop fr).take i).length = xs.length + i := by rw [List.length_append, List.length_take, List.length_drop]; omega
      refine gh_iload hK d_Lt_appendAll_3 rfl ?_
      refine gh_iload_n hK d_Lt_appendAll_5 rfl ?_
      refine gh_icmp_geN hK d_Lt_appendAll_6 (tgt := 28) (by decide) (by omega) (by omega) (fun z => absurd z (by omega)) (fun z => ?_)
      refine gh_aload_n hK d_Lt_appendAll_9 rfl ?_
      refine gh_aload_n hK d_Lt_appendAll_10 rfl ?_
      refine gh_iload_n hK d_Lt_appendAll_11 rfl ?_
      refine gh_iload hK d_Lt_appendAll_12 rfl ?_
      refine gh_addN hK d_Lt_appendAll_14 ?_
      refine gh_callV (rest := [.ref a]) [.int (nI (fr + i))] hK (c_Lt_at l G hs1 (j := fr + i) (by omega)) Y_Lt_at V_Lt_at km_Lt_23 hs1.ob rfl rfl d_Lt_appendAll_15 rfl rfl (Nat.le_of_ble_eq_true rfl) ⟨(Nat.le_of_ble_eq_true rfl), (Nat.le_of_ble_eq_true rfl)⟩ ⟨(Nat.le_of_ble_eq_true rfl), (Nat.le_of_ble_eq_true rfl)⟩ (fun v g' hp => ?_)
      rw [hp.1, hp.2]
      show gh_W l G _ X g1 _ _ [some (.ref a), some (.ref sa), some (.int (nI fr)), some (.int (nI len)), some (.int (nI i))] 18 [.int (nI (ys.getD (fr + i) 0)), .ref a]
      have hch := hs1.getD (fr + i)
      refine gh_callV (rest := []) [.int (nI (ys.getD (fr + i) 0))] hK (c_Lt_append l G h1 hch) Y_Lt_append V_Lt_append km_Lt_27 h1.ob rfl rfl d_Lt_appendAll_18 rfl rfl (Nat.le_of_ble_eq_true rfl) ⟨(Nat.le_of_ble_eq_true rfl), (Nat.le_of_ble_eq_true rfl)⟩ ⟨(Nat.le_of_ble_eq_true rfl), (Nat.le_of_ble_eq_true rfl)⟩ (fun v g2 hp => ?_)
      obtain ⟨hp1, -, hpN⟩ := hp
      obtain ⟨rfl, hp2⟩ := hp1 (by omega)
      show gh_W l G _ X g2 _ _ [some (.ref a), some (.ref sa), some (.int (nI fr)), some (.int (nI len)), some (.int (nI i))] 21 [.int 1]
      refine gh_pop hK d_Lt_appendAll_21 rfl ?_
      refine gh_incN (lv' := [some (.ref a), some (.ref sa), some (.int (nI fr)), some (.int (nI len)), some (.int (nI (i + 1)))]) hK d_Lt_appendAll_22 rfl rfl ?_
      refine gh_goto (tgt := 3) hK d_Lt_appendAll_25 (by decide) ?_
      refine ih (i + 1) g2 (by omega) ?_ (hN.tr hpN)
      rw [slice_succ (by omega), ← List.append_assoc]
      exact hp2
  refine gh_iconst (v := nI 0) hK d_Lt_appendAll_0 (by decide) ?_
  refine gh_istore (lv' := [some (.ref a), some (.ref sa), some (.int (nI fr)), some (.int (nI len)), some (.int (nI 0))]) hK d_Lt_appendAll_1 (Nat.le_of_ble_eq_true rfl) rfl ?_
  exact loop len 0 g (by omega) (by rw [List.take_zero, List.append_nil]; exact h) gh_N.rf
set_option maxRecDepth 20000 in
set_option maxHeartbeats 4000000 in
theorem c_Lt_copy (l : Launch) (G : GG) {g : GH} {a t b u cap : Nat} {xs : List Nat} {fr len : Nat} (T U : Nat) (h : Lt G g a t b u cap xs) (hf : fr + len ≤ xs.length) : gMet l G y_Lt_copy b_Lt_copy 5 (some (.object "SpellDesk$Letters")) (rmk 2 2 (2 + len) 42) [.ref a, .int (nI fr), .int (nI len)] g (fun v g' => ∃ a1 b1, v = some (.ref a1) ∧ g a1 = none ∧ g b1 = none ∧ Lt G g' a1 T b1 U len ((xs.drop fr).take len) ∧ gh_N [] g g') := by
  refine gMet.of [some (.ref a), some (.int (nI fr)), some (.int (nI len)), none, none] (by decide +kernel) rfl (Nat.le_of_ble_eq_true rfl) rfl (fun X hK hI hE => ?_)
  obtain ⟨hcap, hcap2⟩ := h.len
  have loop : ∀ (a1 b1 m i : Nat) (g1 : GH), g a1 = none → g b1 = none → i + m = len → Lt G g1 a1 T b1 U len ((xs.drop fr).take i) → gh_N [] g g1 → gh_W l G (rmk 2 2 (2 + len) 42) X g1 2 (2 + len) [some (.ref a), some (.int (nI fr)), some (.int (nI len)), some (.ref a1), some (.int (nI i))] 12 [] := by
    intro a1 b1 m
    induction m with
    | zero =>
      intro i g1 ha1 hb1 hi h1 hN
      obtain rfl : i = len := by omega
      refine gh_iload hK d_Lt_copy_12 rfl ?_
      refine gh_iload_n hK d_Lt_copy_14 rfl ?_
      refine gh_icmp_geN hK d_Lt_copy_15 (tgt := 37) (by decide) (by omega) (by omega) (fun z => ?_) (fun z => absurd z (by omega))
      refine gh_aload_n hK d_Lt_copy_37 rfl ?_
      exact gh_aret (Or.inl ⟨_, rfl⟩) (Or.inr ⟨_, rfl⟩) hK hE d_Lt_copy_38 (Nat.le_refl _) (Nat.le_refl _) ⟨a1, b1, rfl, ha1, hb1, h1, hN⟩
    | succ m ih =>
      intro i g1 ha1 hb1 hi h1 hN
      have hs1 := h.N hN (by simp) (by simp)
      have hl1 : ((xs.drop fr).take i).length = i := by rw [List.length_take, List.length_drop]; omega
      refine gh_iload hK d_Lt_copy_12 rfl ?_
      refine gh_iload_n hK d_Lt_copy_14 rfl ?_
      refine gh_icmp_geN hK d_Lt_copy_15 (tgt := 37) (by decide) (by omega) (by omega) (fun z => absurd z (by omega)) (fun z => ?_)
      refine gh_aload_n hK d_Lt_copy_18 rfl ?_
      refine gh_aload_n hK d_Lt_copy_19 rfl ?_
      refine gh_iload_n hK d_Lt_copy_20 rfl ?_
      refine gh_iload hK d_Lt_copy_21 rfl ?_
      refine gh_addN hK d_Lt_copy_23 ?_
      refine gh_callV (rest := [.ref a1]) [.int (nI (fr + i))] hK (c_Lt_at l G hs1 (j := fr + i) (by omega)) Y_Lt_at V_Lt_at km_Lt_23 hs1.ob rfl rfl d_Lt_copy_24 rfl rfl (Nat.le_of_ble_eq_true rfl) ⟨(Nat.le_of_ble_eq_true rfl), (Nat.le_of_ble_eq_true rfl)⟩ ⟨Nat.le_refl _, Nat.le_refl _⟩ (fun v g' hp => ?_)
      rw [hp.1, hp.2]
      show gh_W l G _ X g1 2 (2 + len) [some (.ref a), some (.int (nI fr)), some (.int (nI len)), some (.ref a1), some (.int (nI i))] 27 [.int (nI (xs.getD (fr + i) 0)), .ref a1]
      have hch := hs1.getD (fr + i)
      refine gh_callV (rest := []) [.int (nI (xs.getD (fr + i) 0))] hK (c_Lt_append l G h1 hch) Y_Lt_append V_Lt_append km_Lt_27 h1.ob rfl rfl d_Lt_copy_27 rfl rfl (Nat.le_of_ble_eq_true rfl) ⟨(Nat.le_of_ble_eq_true rfl), (Nat.le_of_ble_eq_true rfl)⟩ ⟨Nat.le_refl _, Nat.le_refl _⟩ (fun v g2 hp => ?_)
      obtain ⟨hp1, -, hpN⟩ := hp
      obtain ⟨rfl, hp2⟩ := hp1 (by omega)
      show gh_W l G _ X g2 2 (2 + len) [some (.ref a), some (.int (nI fr)), some (.int (nI len)), some (.ref a1), some (.int (nI i))] 30 [.int 1]
      refine gh_pop hK d_Lt_copy_30 rfl ?_
      refine gh_incN (lv' := [some (.ref a), some (.int (nI fr)), some (.int (nI len)), some (.ref a1), some (.int (nI (i + 1)))]) hK d_Lt_copy_31 rfl rfl ?_
      refine gh_goto (tgt := 12) hK d_Lt_copy_34 (by decide) ?_
      refine ih (i + 1) g2 ha1 hb1 (by omega) ?_ (hN.fresh hpN ?_)
      · rw [slice_succ (by omega)]
        exact hp2
      · intro q hq
        rcases List.mem_cons.mp hq with rfl | hq
        · exact Or.inr ha1
        · rw [List.mem_singleton.mp hq]
          exact Or.inr hb1
  refine gh_new (ci := 3) (fs := [.null, .int 0]) T hK d_Lt_copy_0 in_Lt t_Lt ty_Lt rfl kc_Lt_14 wi_Lt wn_Lt df_Lt (Nat.le_of_ble_eq_true rfl) (by show 0 + 2 ≤ 2 + len; omega) (fun a1 ha1 => ?_)
  refine gh_dup hK d_Lt_copy_3 rfl ?_
  refine gh_iload_n hK d_Lt_copy_4 rfl ?_
  have haa : a ≠ a1 := fun z => by have := h.ob; rw [z, ha1] at this; cases this
  refine gh_callI (rest := [.ref a1]) [.int (nI len)] hK (c_Lt_init l G (t := T) (cap := len) U gh_us (by omega)) Y_Lt_init rfl V_Lt_init km_Lt_31 rfl d_Lt_copy_5 rfl rfl (Nat.le_of_ble_eq_true rfl) ⟨(Nat.le_of_ble_eq_true rfl), (Nat.le_of_ble_eq_true rfl)⟩ ⟨(Nat.le_of_ble_eq_true rfl), Nat.le_refl _⟩ (fun v g2 hp => ?_)
  obtain ⟨rfl, b1, hb1, hp1, hpN⟩ := hp
  show gh_W l G _ X g2 2 (2 + len) [some (.ref a), some (.int (nI fr)), some (.int (nI len)), none, none] 8 [.ref a1]
  have hb1' : g b1 = none := by
    by_cases e : b1 = a1
    · rw [e]; exact ha1
    · rw [gh_un e] at hb1; exact hb1
  refine gh_astore_n (lv' := [some (.ref a), some (.int (nI fr)), some (.int (nI len)), some (.ref a1), none]) hK d_Lt_copy_8 (Nat.le_of_ble_eq_true rfl) rfl ?_
  refine gh_iconst (v := nI 0) hK d_Lt_copy_9 (by decide) ?_
  refine gh_istore (lv' := [some (.ref a), some (.int (nI fr)), some (.int (nI len)), some (.ref a1), some (.int (nI 0))]) hK d_Lt_copy_10 (Nat.le_of_ble_eq_true rfl) rfl ?_
  exact loop a1 b1 len 0 g2 ha1 hb1' (by omega) (by rw [List.take_zero]; exact hp1) (gh_N.fresh (gh_N.nw ha1) hpN (fun q hq => by rw [List.mem_singleton.mp hq]; exact Or.inr ha1))
set_option maxRecDepth 20000 in
set_option maxHeartbeats 4000000 in
theorem c_Lt_compare (l : Launch) (G : GG) {g : GH} {a t b u cap : Nat} {xs : List Nat} {oa ot ob ou ocap fr len of ol : Nat} {ys : List Nat} (h : Lt G g a t b u cap xs) (ho : Lt G g oa ot ob ou ocap ys) (hf : fr + len ≤ xs.length) (hof : of + ol ≤ ys.length) : gMet l G y_Lt_compare b_Lt_compare 9 (some .int) (rmk 0 0 0 0) [.ref a, .int (nI fr), .int (nI len), .ref oa, .int (nI of), .int (nI ol)] g (fun v g' => ∃ r : Int32, v = some (.int r) ∧ r.toInt = cmpL ((xs.drop fr).take len) ((ys.drop of).take ol) ∧ g' = g) := by
  refine gMet.of [some (.ref a), some (.int (nI fr)), some (.int (nI len)), some (.ref oa), some (.int (nI of)), some (.int (nI ol)), none, none, none] (by decide +kernel) rfl (Nat.le_of_ble_eq_true rfl) rfl (fun X hK hI hE => ?_)
  obtain ⟨hcap, hcap2⟩ := h.len
  obtain ⟨hsl, hsl2⟩ := ho.len
  obtain ⟨f, ⟨h1, h2, h3, h4⟩, h5⟩ := h
  obtain ⟨f2, ⟨k1, k2, k3, k4⟩, k5⟩ := ho
  have hend : ∀ i, i ≤ len → i ≤ ol → (len ≤ i ∨ ol ≤ i) → cmpL ((xs.drop fr).take len) ((ys.drop of).take ol) = cmpL (((xs.drop fr).take len).drop i) (((ys.drop of).take ol).drop i) → (nI len - nI ol).toInt = cmpL ((xs.drop fr).take len) ((ys.drop of).take ol) := by
    intro i hi1 hi2 hor e
    rw [e, pk_sub_toInt (by omega) (by omega)]
    rcases hor with q | q
    · rw [List.drop_eq_nil_of_le (by rw [slice_len hf]; exact q), cmpL_nil_l, List.length_drop, slice_len hof]
      omega
    · rw [List.drop_eq_nil_of_le (as := (ys.drop of).take ol) (by rw [slice_len hof]; exact q), cmpL_nil_r, List.length_drop, slice_len hf]
      omega
  have loop : ∀ (m i : Nat) (o7 o8 : Option Value), i + m = len + ol → i ≤ len → i ≤ ol → cmpL ((xs.drop fr).take len) ((ys.drop of).take ol) = cmpL (((xs.drop fr).take len).drop i) (((ys.drop of).take ol).drop i) → gh_W l G (rmk 0 0 0 0) X g 0 0 [some (.ref a), some (.int (nI fr)), some (.int (nI len)), some (.ref oa), some (.int (nI of)), some (.int (nI ol)), some (.int (nI i)), o7, o8] 3 [] := by
    intro m
    induction m with
    | zero =>
      intro i o7 o8 hi hi1 hi2 e
      refine gh_iload hK d_Lt_compare_3 rfl ?_
      refine gh_iload_n hK d_Lt_compare_5 rfl ?_
      refine gh_icmp_geN hK d_Lt_compare_6 (tgt := 99) (by decide) (by omega) (by omega) (fun z => ?_) (fun z => absurd z (by omega))
      refine gh_iload_n hK d_Lt_compare_99 rfl ?_
      refine gh_iload hK d_Lt_compare_100 rfl ?_
      refine gh_isub hK d_Lt_compare_102 ?_
      exact gh_iret hK hE d_Lt_compare_103 (Nat.le_of_ble_eq_true rfl) (Nat.le_of_ble_eq_true rfl) ⟨_, rfl, hend i hi1 hi2 (Or.inl z) e, rfl⟩
    | succ m ih =>
      intro i o7 o8 hi hi1 hi2 e
      refine gh_iload hK d_Lt_compare_3 rfl ?_
      refine gh_iload_n hK d_Lt_compare_5 rfl ?_
      refine gh_icmp_geN hK d_Lt_compare_6 (tgt := 99) (by decide) (by omega) (by omega) (fun z => ?_) (fun z => ?_)
      · refine gh_iload_n hK d_Lt_compare_99 rfl ?_
        refine gh_iload hK d_Lt_compare_100 rfl ?_
        refine gh_isub hK d_Lt_compare_102 ?_
        exact gh_iret hK hE d_Lt_compare_103 (Nat.le_of_ble_eq_true rfl) (Nat.le_of_ble_eq_true rfl) ⟨_, rfl, hend i hi1 hi2 (Or.inl z) e, rfl⟩
      · refine gh_iload hK d_Lt_compare_9 rfl ?_
        refine gh_iload hK d_Lt_compare_11 rfl ?_
        refine gh_icmp_geN hK d_Lt_compare_13 (tgt := 99) (by decide) (by omega) (by omega) (fun z2 => ?_) (fun z2 => ?_)
        · refine gh_iload_n hK d_Lt_compare_99 rfl ?_
          refine gh_iload hK d_Lt_compare_100 rfl ?_
          refine gh_isub hK d_Lt_compare_102 ?_
          exact gh_iret hK hE d_Lt_compare_103 (Nat.le_of_ble_eq_true rfl) (Nat.le_of_ble_eq_true rfl) ⟨_, rfl, hend i hi1 hi2 (Or.inr z2) e, rfl⟩
        · refine gh_iload_n hK d_Lt_compare_16 rfl ?_
          refine gh_iload hK d_Lt_compare_17 rfl ?_
          refine gh_addN hK d_Lt_compare_19 ?_
          refine gh_istore (lv' := [some (.ref a), some (.int (nI fr)), some (.int (nI len)), some (.ref oa), some (.int (nI of)), some (.int (nI ol)), some (.int (nI i)), some (.int (nI (fr + i))), o8]) hK d_Lt_compare_20 (Nat.le_of_ble_eq_true rfl) rfl ?_
          refine gh_iload hK d_Lt_compare_22 rfl ?_
          refine gh_iload hK d_Lt_compare_24 rfl ?_
          refine gh_addN hK d_Lt_compare_26 ?_
          refine gh_istore (lv' := [some (.ref a), some (.int (nI fr)), some (.int (nI len)), some (.ref oa), some (.int (nI of)), some (.int (nI ol)), some (.int (nI i)), some (.int (nI (fr + i))), some (.int (nI (of + i)))]) hK d_Lt_compare_27 (Nat.le_of_ble_eq_true rfl) rfl ?_
          refine gh_iload hK d_Lt_compare_29 rfl ?_
          refine gh_if_ltN hK d_Lt_compare_31 (tgt := 99) (by decide) (by omega) ?_
          refine gh_iload hK d_Lt_compare_34 rfl ?_
          refine gh_aload_n hK d_Lt_compare_36 rfl ?_
          refine gh_get hK d_Lt_compare_37 in_Lt rfl h1 1 (by decide) kf_Lt_19 rfl rfl ?_
          refine gh_icmp_geN hK d_Lt_compare_40 (tgt := 99) (by decide) (by omega) (by omega) (fun z3 => absurd z3 (by omega)) (fun z3 => ?_)
          refine gh_iload hK d_Lt_compare_43 rfl ?_
          refine gh_if_ltN hK d_Lt_compare_45 (tgt := 99) (by decide) (by omega) ?_
          refine gh_iload hK d_Lt_compare_48 rfl ?_
          refine gh_aload_n hK d_Lt_compare_50 rfl ?_
          refine gh_get hK d_Lt_compare_51 in_Lt rfl k1 1 (by decide) kf_Lt_19 rfl rfl ?_
          refine gh_icmp_ltN hK d_Lt_compare_54 (tgt := 60) (by decide) (by omega) (by omega) (fun z4 => ?_) (fun z4 => absurd z4 (by omega))
          have ex := h5 (fr + i) _ (getD_some (by omega))
          have ey := k5 (of + i) _ (getD_some (by omega))
          refine gh_aload_n hK d_Lt_compare_60 rfl ?_
          refine gh_get hK d_Lt_compare_61 in_Lt rfl h1 0 (by decide) kf_Lt_13 rfl rfl ?_
          refine gh_iload hK d_Lt_compare_64 rfl ?_
          refine gh_caldN (j := fr + i) hK d_Lt_compare_66 h2 (t0 := 0) rfl (by omega) (by omega) ?_
          rw [ex.1]
          refine gh_aload_n hK d_Lt_compare_67 rfl ?_
          refine gh_get hK d_Lt_compare_68 in_Lt rfl k1 0 (by decide) kf_Lt_13 rfl rfl ?_
          refine gh_iload hK d_Lt_compare_71 rfl ?_
          refine gh_caldN (j := of + i) hK d_Lt_compare_73 k2 (t0 := 0) rfl (by omega) (by omega) ?_
          rw [ey.1]
          have hx16 := ex.2
          have hy16 := ey.2
          refine gh_icmp_eqN hK d_Lt_compare_74 (tgt := 93) (by decide) (by omega) (by omega) (fun z5 => ?_) (fun z5 => ?_)
          · refine gh_incN (lv' := [some (.ref a), some (.int (nI fr)), some (.int (nI len)), some (.ref oa), some (.int (nI of)), some (.int (nI ol)), some (.int (nI (i + 1))), some (.int (nI (fr + i))), some (.int (nI (of + i)))]) hK d_Lt_compare_93 rfl rfl ?_
            refine gh_goto (tgt := 3) hK d_Lt_compare_96 (by decide) ?_
            refine ih (i + 1) _ _ (by omega) (by omega) (by omega) ?_
            rw [e, slice_drop hf (by omega), slice_drop hof (by omega), cmpL_cons, if_pos z5]
          · refine gh_aload_n hK d_Lt_compare_77 rfl ?_
            refine gh_get hK d_Lt_compare_78 in_Lt rfl h1 0 (by decide) kf_Lt_13 rfl rfl ?_
            refine gh_iload hK d_Lt_compare_81 rfl ?_
            refine gh_caldN (j := fr + i) hK d_Lt_compare_83 h2 (t0 := 0) rfl (by omega) (by omega) ?_
            rw [ex.1]
            refine gh_aload_n hK d_Lt_compare_84 rfl ?_
            refine gh_get hK d_Lt_compare_85 in_Lt rfl k1 0 (by decide) kf_Lt_13 rfl rfl ?_
            refine gh_iload hK d_Lt_compare_88 rfl ?_
            refine gh_caldN (j := of + i) hK d_Lt_compare_90 k2 (t0 := 0) rfl (by omega) (by omega) ?_
            rw [ey.1]
            refine gh_isub hK d_Lt_compare_91 ?_
            refine gh_iret hK hE d_Lt_compare_92 (Nat.le_of_ble_eq_true rfl) (Nat.le_of_ble_eq_true rfl) ⟨_, rfl, ?_, rfl⟩
            rw [e, slice_drop hf (by omega), slice_drop hof (by omega), cmpL_cons, if_neg z5, pk_sub_toInt (by omega) (by omega)]
  refine gh_iconst (v := nI 0) hK d_Lt_compare_0 (by decide) ?_
  refine gh_istore (lv' := [some (.ref a), some (.int (nI fr)), some (.int (nI len)), some (.ref oa), some (.int (nI of)), some (.int (nI ol)), some (.int (nI 0)), none, none]) hK d_Lt_compare_1 (Nat.le_of_ble_eq_true rfl) rfl ?_
  exact loop (len + ol) 0 none none (by omega) (Nat.zero_le _) (Nat.zero_le _) rfl
end
section
abbrev b_Str_length : ByteArray := prog_23_method_54_code
def y_Str_length : MethodName := ⟨"java/lang/String", "length", "()I"⟩
set_option maxRecDepth 20000 in
theorem Y_Str_length : gh_Y y_Str_length b_Str_length 1 (some .int) 0 := ⟨gt_in (i := 301) rfl rfl, gt_in (i := 19) (by decide +kernel) rfl, by decide +kernel, by decide +kernel, by decide +kernel⟩
theorem V_Str_length : Cond.instanceMethod y_Str_length ∈ gTbl ∧ Cond.selects y_Str_length.cls y_Str_length y_Str_length ∈ gTbl := ⟨(gt_in (i := 299) (by decide +kernel) rfl), (gt_in (i := 300) (by decide +kernel) rfl)⟩
theorem d_Str_length_0 : decode b_Str_length 0 = .ok (.aload_n 0, 1) := by decide +kernel
theorem d_Str_length_1 : decode b_Str_length 1 = .ok (.getfield 9, 3) := by decide +kernel
theorem d_Str_length_4 : decode b_Str_length 4 = .ok (.arraylength, 1) := by decide +kernel
theorem d_Str_length_5 : decode b_Str_length 5 = .ok (.aload_n 0, 1) := by decide +kernel
theorem d_Str_length_6 : decode b_Str_length 6 = .ok (.invokevirtual 335, 3) := by decide +kernel
theorem d_Str_length_9 : decode b_Str_length 9 = .ok (.ishr, 1) := by decide +kernel
theorem d_Str_length_10 : decode b_Str_length 10 = .ok (.ireturn, 1) := by decide +kernel
abbrev b_Str_coder : ByteArray := prog_23_method_152_code
def y_Str_coder : MethodName := ⟨"java/lang/String", "coder", "()B"⟩
set_option maxRecDepth 20000 in
theorem Y_Str_coder : gh_Y y_Str_coder b_Str_coder 1 (some .byte) 0 := ⟨gt_in (i := 305) rfl rfl, gt_in (i := 19) (by decide +kernel) rfl, by decide +kernel, by decide +kernel, by decide +kernel⟩
theorem V_Str_coder : Cond.instanceMethod y_Str_coder ∈ gTbl ∧ Cond.selects y_Str_coder.cls y_Str_coder y_Str_coder ∈ gTbl := ⟨(gt_in (i := 303) (by decide +kernel) rfl), (gt_in (i := 304) (by decide +kernel) rfl)⟩
theorem d_Str_coder_0 : decode b_Str_coder 0 = .ok (.getstatic 38, 3) := by decide +kernel
theorem d_Str_coder_3 : decode b_Str_coder 3 = .ok (.ifCond .eq 10, 3) := by decide +kernel
theorem d_Str_coder_6 : decode b_Str_coder 6 = .ok (.aload_n 0, 1) := by decide +kernel
theorem d_Str_coder_7 : decode b_Str_coder 7 = .ok (.getfield 15, 3) := by decide +kernel
theorem d_Str_coder_10 : decode b_Str_coder 10 = .ok (.goto 4, 3) := by decide +kernel
theorem d_Str_coder_13 : decode b_Str_coder 13 = .ok (.iconst 1, 1) := by decide +kernel
theorem d_Str_coder_14 : decode b_Str_coder 14 = .ok (.ireturn, 1) := by decide +kernel
abbrev b_Str_charAt : ByteArray := prog_23_method_56_code
def y_Str_charAt : MethodName := ⟨"java/lang/String", "charAt", "(I)C"⟩
set_option maxRecDepth 20000 in
theorem Y_Str_charAt : gh_Y y_Str_charAt b_Str_charAt 2 (some .char) 1 := ⟨gt_in (i := 311) rfl rfl, gt_in (i := 19) (by decide +kernel) rfl, by decide +kernel, by decide +kernel, by decide +kernel⟩
theorem V_Str_charAt : Cond.instanceMethod y_Str_charAt ∈ gTbl ∧ Cond.selects y_Str_charAt.cls y_Str_charAt y_Str_charAt ∈ gTbl := ⟨(gt_in (i := 309) (by decide +kernel) rfl), (gt_in (i := 310) (by decide +kernel) rfl)⟩
theorem d_Str_charAt_0 : decode b_Str_charAt 0 = .ok (.aload_n 0, 1) := by decide +kernel
theorem d_Str_charAt_1 : decode b_Str_charAt 1 = .ok (.invokevirtual 492, 3) := by decide +kernel
theorem d_Str_charAt_4 : decode b_Str_charAt 4 = .ok (.ifCond .eq 12, 3) := by decide +kernel
theorem d_Str_charAt_7 : decode b_Str_charAt 7 = .ok (.aload_n 0, 1) := by decide +kernel
theorem d_Str_charAt_8 : decode b_Str_charAt 8 = .ok (.getfield 9, 3) := by decide +kernel
theorem d_Str_charAt_11 : decode b_Str_charAt 11 = .ok (.iload_n 1, 1) := by decide +kernel
theorem d_Str_charAt_12 : decode b_Str_charAt 12 = .ok (.invokestatic 495, 3) := by decide +kernel
theorem d_Str_charAt_15 : decode b_Str_charAt 15 = .ok (.ireturn, 1) := by decide +kernel
theorem d_Str_charAt_16 : decode b_Str_charAt 16 = .ok (.aload_n 0, 1) := by decide +kernel
theorem d_Str_charAt_17 : decode b_Str_charAt 17 = .ok (.getfield 9, 3) := by decide +kernel
theorem d_Str_charAt_20 : decode b_Str_charAt 20 = .ok (.iload_n 1, 1) := by decide +kernel
theorem d_Str_charAt_21 : decode b_Str_charAt 21 = .ok (.invokestatic 498, 3) := by decide +kernel
theorem d_Str_charAt_24 : decode b_Str_charAt 24 = .ok (.ireturn, 1) := by decide +kernel
abbrev b_Str_isLatin1 : ByteArray := prog_23_method_154_code
def y_Str_isLatin1 : MethodName := ⟨"java/lang/String", "isLatin1", "()Z"⟩
set_option maxRecDepth 20000 in
theorem Y_Str_isLatin1 : gh_Y y_Str_isLatin1 b_Str_isLatin1 1 (some .boolean) 0 := ⟨gt_in (i := 315) rfl rfl, gt_in (i := 19) (by decide +kernel) rfl, by decide +kernel, by decide +kernel, by decide +kernel⟩
theorem V_Str_isLatin1 : Cond.instanceMethod y_Str_isLatin1 ∈ gTbl ∧ Cond.selects y_Str_isLatin1.cls y_Str_isLatin1 y_Str_isLatin1 ∈ gTbl := ⟨(gt_in (i := 313) (by decide +kernel) rfl), (gt_in (i := 314) (by decide +kernel) rfl)⟩
theorem d_Str_isLatin1_0 : decode b_Str_isLatin1 0 = .ok (.getstatic 38, 3) := by decide +kernel
theorem d_Str_isLatin1_3 : decode b_Str_isLatin1 3 = .ok (.ifCond .eq 14, 3) := by decide +kernel
theorem d_Str_isLatin1_6 : decode b_Str_isLatin1 6 = .ok (.aload_n 0, 1) := by decide +kernel
theorem d_Str_isLatin1_7 : decode b_Str_isLatin1 7 = .ok (.getfield 15, 3) := by decide +kernel
theorem d_Str_isLatin1_10 : decode b_Str_isLatin1 10 = .ok (.ifCond .ne 7, 3) := by decide +kernel
theorem d_Str_isLatin1_13 : decode b_Str_isLatin1 13 = .ok (.iconst 1, 1) := by decide +kernel
theorem d_Str_isLatin1_14 : decode b_Str_isLatin1 14 = .ok (.goto 4, 3) := by decide +kernel
theorem d_Str_isLatin1_17 : decode b_Str_isLatin1 17 = .ok (.iconst 0, 1) := by decide +kernel
theorem d_Str_isLatin1_18 : decode b_Str_isLatin1 18 = .ok (.ireturn, 1) := by decide +kernel
abbrev b_Str_checkIndex : ByteArray := prog_23_method_155_code
def y_Str_checkIndex : MethodName := ⟨"java/lang/String", "checkIndex", "(II)V"⟩
set_option maxRecDepth 20000 in
theorem Y_Str_checkIndex : gh_Y y_Str_checkIndex b_Str_checkIndex 2 none 2 := ⟨gt_in (i := 321) rfl rfl, gt_in (i := 19) (by decide +kernel) rfl, by decide +kernel, by decide +kernel, by decide +kernel⟩
theorem V_Str_checkIndex : Cond.static y_Str_checkIndex ∈ gTbl := (gt_in (i := 320) (by decide +kernel) rfl)
theorem d_Str_checkIndex_0 : decode b_Str_checkIndex 0 = .ok (.iload_n 0, 1) := by decide +kernel
theorem d_Str_checkIndex_1 : decode b_Str_checkIndex 1 = .ok (.iload_n 1, 1) := by decide +kernel
theorem d_Str_checkIndex_2 : decode b_Str_checkIndex 2 = .ok (.getstatic 1053, 3) := by decide +kernel
theorem d_Str_checkIndex_5 : decode b_Str_checkIndex 5 = .ok (.invokestatic 1059, 3) := by decide +kernel
theorem d_Str_checkIndex_8 : decode b_Str_checkIndex 8 = .ok (.pop, 1) := by decide +kernel
theorem d_Str_checkIndex_9 : decode b_Str_checkIndex 9 = .ok (.return_, 1) := by decide +kernel
theorem kf_Str_9 : Cond.fieldLink "java/lang/String" 9 "java/lang/String" "value" "[B" ∈ gTbl := (gt_in (i := 713) (by decide +kernel) rfl)
theorem kf_Str_15 : Cond.fieldLink "java/lang/String" 15 "java/lang/String" "coder" "B" ∈ gTbl := (gt_in (i := 714) (by decide +kernel) rfl)
theorem kf_Str_38 : Cond.fieldLink "java/lang/String" 38 "java/lang/String" "COMPACT_STRINGS" "Z" ∈ gTbl := (gt_in (i := 306) (by decide +kernel) rfl)
theorem kf_Str_1053 : Cond.fieldLink "java/lang/String" 1053 "jdk/internal/util/Preconditions" "SIOOBE_FORMATTER" "Ljava/util/function/BiFunction;" ∈ gTbl := (gt_in (i := 322) (by decide +kernel) rfl)
theorem km_Str_335 : Cond.methodLink "java/lang/String" 335 ⟨"java/lang/String", "coder", "()B"⟩ ∈ gTbl := (gt_in (i := 302) (by decide +kernel) rfl)
theorem km_Str_492 : Cond.methodLink "java/lang/String" 492 ⟨"java/lang/String", "isLatin1", "()Z"⟩ ∈ gTbl := (gt_in (i := 312) (by decide +kernel) rfl)
theorem km_Str_495 : Cond.methodLink "java/lang/String" 495 ⟨"java/lang/StringLatin1", "charAt", "([BI)C"⟩ ∈ gTbl := (gt_in (i := 316) (by decide +kernel) rfl)
theorem km_Str_498 : Cond.methodLink "java/lang/String" 498 ⟨"java/lang/StringUTF16", "charAt", "([BI)C"⟩ ∈ gTbl := (gt_in (i := 327) (by decide +kernel) rfl)
theorem km_Str_1059 : Cond.methodLink "java/lang/String" 1059 ⟨"jdk/internal/util/Preconditions", "checkIndex", "(IILjava/util/function/BiFunction;)I"⟩ ∈ gTbl := (gt_in (i := 324) (by decide +kernel) rfl)
abbrev b_SL1_charAt : ByteArray := prog_25_method_2_code
def y_SL1_charAt : MethodName := ⟨"java/lang/StringLatin1", "charAt", "([BI)C"⟩
set_option maxRecDepth 20000 in
theorem Y_SL1_charAt : gh_Y y_SL1_charAt b_SL1_charAt 2 (some .char) 2 := ⟨gt_in (i := 318) rfl rfl, gt_in (i := 20) (by decide +kernel) rfl, by decide +kernel, by decide +kernel, by decide +kernel⟩
theorem V_SL1_charAt : Cond.static y_SL1_charAt ∈ gTbl := (gt_in (i := 317) (by decide +kernel) rfl)
theorem d_SL1_charAt_0 : decode b_SL1_charAt 0 = .ok (.iload_n 1, 1) := by decide +kernel
theorem d_SL1_charAt_1 : decode b_SL1_charAt 1 = .ok (.aload_n 0, 1) := by decide +kernel
theorem d_SL1_charAt_2 : decode b_SL1_charAt 2 = .ok (.arraylength, 1) := by decide +kernel
theorem d_SL1_charAt_3 : decode b_SL1_charAt 3 = .ok (.invokestatic 9, 3) := by decide +kernel
theorem d_SL1_charAt_6 : decode b_SL1_charAt 6 = .ok (.aload_n 0, 1) := by decide +kernel
theorem d_SL1_charAt_7 : decode b_SL1_charAt 7 = .ok (.iload_n 1, 1) := by decide +kernel
theorem d_SL1_charAt_8 : decode b_SL1_charAt 8 = .ok (.baload, 1) := by decide +kernel
theorem d_SL1_charAt_9 : decode b_SL1_charAt 9 = .ok (.sipush 255, 3) := by decide +kernel
theorem d_SL1_charAt_12 : decode b_SL1_charAt 12 = .ok (.iand, 1) := by decide +kernel
theorem d_SL1_charAt_13 : decode b_SL1_charAt 13 = .ok (.i2c, 1) := by decide +kernel
theorem d_SL1_charAt_14 : decode b_SL1_charAt 14 = .ok (.ireturn, 1) := by decide +kernel
theorem km_SL1_9 : Cond.methodLink "java/lang/StringLatin1" 9 ⟨"java/lang/String", "checkIndex", "(II)V"⟩ ∈ gTbl := (gt_in (i := 319) (by decide +kernel) rfl)
abbrev b_Pre_checkIndex : ByteArray := prog_39_method_11_code
def y_Pre_checkIndex : MethodName := ⟨"jdk/internal/util/Preconditions", "checkIndex", "(IILjava/util/function/BiFunction;)I"⟩
set_option maxRecDepth 20000 in
theorem Y_Pre_checkIndex : gh_Y y_Pre_checkIndex b_Pre_checkIndex 3 (some .int) 3 := ⟨gt_in (i := 326) rfl rfl, gt_in (i := 21) (by decide +kernel) rfl, by decide +kernel, by decide +kernel, by decide +kernel⟩
theorem V_Pre_checkIndex : Cond.static y_Pre_checkIndex ∈ gTbl := (gt_in (i := 325) (by decide +kernel) rfl)
theorem d_Pre_checkIndex_0 : decode b_Pre_checkIndex 0 = .ok (.iload_n 0, 1) := by decide +kernel
theorem d_Pre_checkIndex_1 : decode b_Pre_checkIndex 1 = .ok (.ifCond .lt 8, 3) := by decide +kernel
theorem d_Pre_checkIndex_4 : decode b_Pre_checkIndex 4 = .ok (.iload_n 0, 1) := by decide +kernel
theorem d_Pre_checkIndex_5 : decode b_Pre_checkIndex 5 = .ok (.iload_n 1, 1) := by decide +kernel
theorem d_Pre_checkIndex_6 : decode b_Pre_checkIndex 6 = .ok (.if_icmp .lt 10, 3) := by decide +kernel
theorem d_Pre_checkIndex_9 : decode b_Pre_checkIndex 9 = .ok (.aload_n 2, 1) := by decide +kernel
theorem d_Pre_checkIndex_10 : decode b_Pre_checkIndex 10 = .ok (.iload_n 0, 1) := by decide +kernel
theorem d_Pre_checkIndex_11 : decode b_Pre_checkIndex 11 = .ok (.iload_n 1, 1) := by decide +kernel
theorem d_Pre_checkIndex_12 : decode b_Pre_checkIndex 12 = .ok (.invokestatic 95, 3) := by decide +kernel
theorem d_Pre_checkIndex_15 : decode b_Pre_checkIndex 15 = .ok (.athrow, 1) := by decide +kernel
theorem d_Pre_checkIndex_16 : decode b_Pre_checkIndex 16 = .ok (.iload_n 0, 1) := by decide +kernel
theorem d_Pre_checkIndex_17 : decode b_Pre_checkIndex 17 = .ok (.ireturn, 1) := by decide +kernel
end
section
/-! STRING CONSTANTS: length, charAt -/
set_option maxRecDepth 20000 in
set_option maxHeartbeats 4000000 in
theorem c_Str_coder (l : Launch) (G : GG) {g : GH} {i : Nat} (hi : i < st_N) : gMet l G y_Str_coder b_Str_coder 1 (some .byte) (rmk 0 0 0 0) [.ref (G.2.2.1 i)] g (fun v g' => v = some (.int (nI 0)) ∧ g' = g) := by
  refine gMet.of [some (.ref (G.2.2.1 i))] (by decide +kernel) rfl (Nat.le_of_ble_eq_true rfl) rfl (fun X hK hI hE => ?_)
  refine gh_cs hK d_Str_coder_0 kf_Str_38 ?_
  refine gh_if_eqN hK d_Str_coder_3 (tgt := 13) (by decide) (by decide) (fun z => absurd z (by decide)) (fun z => ?_)
  refine gh_aload_n hK d_Str_coder_6 rfl ?_
  refine gh_strC hK d_Str_coder_7 hi kf_Str_15 ?_
  refine gh_goto (tgt := 14) hK d_Str_coder_10 (by decide) ?_
  exact gh_zret rfl hK hE d_Str_coder_14 (Nat.le_of_ble_eq_true rfl) (Nat.le_of_ble_eq_true rfl) ⟨rfl, rfl⟩
set_option maxRecDepth 20000 in
set_option maxHeartbeats 4000000 in
theorem c_Str_isLatin1 (l : Launch) (G : GG) {g : GH} {i : Nat} (hi : i < st_N) : gMet l G y_Str_isLatin1 b_Str_isLatin1 1 (some .boolean) (rmk 0 0 0 0) [.ref (G.2.2.1 i)] g (fun v g' => v = some (.int (nI 1)) ∧ g' = g) := by
  refine gMet.of [some (.ref (G.2.2.1 i))] (by decide +kernel) rfl (Nat.le_of_ble_eq_true rfl) rfl (fun X hK hI hE => ?_)
  refine gh_cs hK d_Str_isLatin1_0 kf_Str_38 ?_
  refine gh_if_eqN hK d_Str_isLatin1_3 (tgt := 17) (by decide) (by decide) (fun z => absurd z (by decide)) (fun z => ?_)
  refine gh_aload_n hK d_Str_isLatin1_6 rfl ?_
  refine gh_strC hK d_Str_isLatin1_7 hi kf_Str_15 ?_
  refine gh_if_neN hK d_Str_isLatin1_10 (tgt := 17) (by decide) (by decide) (fun z => absurd z (by decide)) (fun z => ?_)
  refine gh_iconst (v := nI 1) hK d_Str_isLatin1_13 (by decide) ?_
  refine gh_goto (tgt := 18) hK d_Str_isLatin1_14 (by decide) ?_
  exact gh_zret rfl hK hE d_Str_isLatin1_18 (Nat.le_of_ble_eq_true rfl) (Nat.le_of_ble_eq_true rfl) ⟨rfl, rfl⟩
set_option maxRecDepth 20000 in
set_option maxHeartbeats 4000000 in
theorem c_Str_length (l : Launch) (G : GG) {g : GH} {i : Nat} (hi : i < st_N) : gMet l G y_Str_length b_Str_length 1 (some .int) (rmk 1 0 0 20) [.ref (G.2.2.1 i)] g (fun v g' => v = some (.int (nI (st_txt.getD i []).length)) ∧ g' = g) := by
  refine gMet.of [some (.ref (G.2.2.1 i))] (by decide +kernel) rfl (Nat.le_of_ble_eq_true rfl) rfl (fun X hK hI hE => ?_)
  obtain ⟨e1, e2, e3⟩ := st_all i hi
  refine gh_aload_n hK d_Str_length_0 rfl ?_
  refine gh_strV hK d_Str_length_1 hi kf_Str_9 ?_
  refine gh_strL hK d_Str_length_4 hi ?_
  refine gh_aload_n hK d_Str_length_5 rfl ?_
  refine gh_callVs (i := i) (rest := [.int (nI (st_len.getD i 0))]) [] hK (c_Str_coder l G (g := g) hi) Y_Str_coder V_Str_coder km_Str_335 hi rfl rfl d_Str_length_6 rfl rfl (Nat.le_of_ble_eq_true rfl) ⟨(Nat.le_of_ble_eq_true rfl), (Nat.le_of_ble_eq_true rfl)⟩ ⟨(Nat.le_of_ble_eq_true rfl), (Nat.le_of_ble_eq_true rfl)⟩ (fun v g' hp => ?_)
  rw [hp.1, hp.2]
  show gh_W l G _ X g _ _ [some (.ref (G.2.2.1 i))] 9 [.int (nI 0), .int (nI (st_len.getD i 0))]
  refine gh_ishr hK d_Str_length_9 ?_
  rw [show nI (st_len.getD i 0) >>> (nI 0 &&& 31) = nI (st_len.getD i 0) from sc_shr0 (by omega), e1]
  exact gh_iret hK hE d_Str_length_10 (Nat.le_of_ble_eq_true rfl) (Nat.le_of_ble_eq_true rfl) ⟨rfl, rfl⟩
set_option maxRecDepth 20000 in
set_option maxHeartbeats 4000000 in
theorem c_Pre_checkIndex (l : Launch) (G : GG) {g : GH} {i j : Nat} {v0 : Value} (hv : v0 = .null ∨ ∃ a, v0 = .ref a) (hi : i < j) (hj : j < 2 ^ 31) : gMet l G y_Pre_checkIndex b_Pre_checkIndex 3 (some .int) (rmk 0 0 0 0) [.int (nI i), .int (nI j), v0] g (fun v g' => v = some (.int (nI i)) ∧ g' = g) := by
  rcases hv with rfl | ⟨q, rfl⟩
  · refine gMet.of [some (.int (nI i)), some (.int (nI j)), some (.null)] (by decide +kernel) rfl (Nat.le_of_ble_eq_true rfl) rfl (fun X hK hI hE => ?_)
    refine gh_iload_n hK d_Pre_checkIndex_0 rfl ?_
    refine gh_if_ltN hK d_Pre_checkIndex_1 (tgt := 9) (by decide) (by omega) ?_
    refine gh_iload_n hK d_Pre_checkIndex_4 rfl ?_
    refine gh_iload_n hK d_Pre_checkIndex_5 rfl ?_
    refine gh_icmp_ltN hK d_Pre_checkIndex_6 (tgt := 16) (by decide) (by omega) (by omega) (fun z => ?_) (fun z => absurd z (by omega))
    refine gh_iload_n hK d_Pre_checkIndex_16 rfl ?_
    exact gh_iret hK hE d_Pre_checkIndex_17 (Nat.le_of_ble_eq_true rfl) (Nat.le_of_ble_eq_true rfl) ⟨rfl, rfl⟩
  · refine gMet.of [some (.int (nI i)), some (.int (nI j)), some (.ref q)] (by decide +kernel) rfl (Nat.le_of_ble_eq_true rfl) rfl (fun X hK hI hE => ?_)
    refine gh_iload_n hK d_Pre_checkIndex_0 rfl ?_
    refine gh_if_ltN hK d_Pre_checkIndex_1 (tgt := 9) (by decide) (by omega) ?_
    refine gh_iload_n hK d_Pre_checkIndex_4 rfl ?_
    refine gh_iload_n hK d_Pre_checkIndex_5 rfl ?_
    refine gh_icmp_ltN hK d_Pre_checkIndex_6 (tgt := 16) (by decide) (by omega) (by omega) (fun z => ?_) (fun z => absurd z (by omega))
    refine gh_iload_n hK d_Pre_checkIndex_16 rfl ?_
    exact gh_iret hK hE d_Pre_checkIndex_17 (Nat.le_of_ble_eq_true rfl) (Nat.le_of_ble_eq_true rfl) ⟨rfl, rfl⟩
set_option maxRecDepth 20000 in
set_option maxHeartbeats 4000000 in
theorem c_Str_checkIndex (l : Launch) (G : GG) {g : GH} {i j : Nat} (hi : i < j) (hj : j < 2 ^ 31) : gMet l G y_Str_checkIndex b_Str_checkIndex 2 none (rmk 1 0 0 22) [.int (nI i), .int (nI j)] g (fun v g' => v = none ∧ g' = g) := by
  refine gMet.of [some (.int (nI i)), some (.int (nI j))] (by decide +kernel) rfl (Nat.le_of_ble_eq_true rfl) rfl (fun X hK hI hE => ?_)
  refine gh_iload_n hK d_Str_checkIndex_0 rfl ?_
  refine gh_iload_n hK d_Str_checkIndex_1 rfl ?_
  refine gh_sio hK d_Str_checkIndex_2 kf_Str_1053 (fun v0 hv0 => ?_)
  refine gh_callS (rest := []) [.int (nI i), .int (nI j), v0] hK (c_Pre_checkIndex l G (g := g) hv0 hi hj) Y_Pre_checkIndex V_Pre_checkIndex km_Str_1059 rfl d_Str_checkIndex_5 rfl rfl (Nat.le_of_ble_eq_true rfl) ⟨(Nat.le_of_ble_eq_true rfl), (Nat.le_of_ble_eq_true rfl)⟩ ⟨(Nat.le_of_ble_eq_true rfl), (Nat.le_of_ble_eq_true rfl)⟩ (fun v g' hp => ?_)
  rw [hp.1, hp.2]
  show gh_W l G _ X g _ _ [some (.int (nI i)), some (.int (nI j))] 8 [.int (nI i)]
  refine gh_pop hK d_Str_checkIndex_8 rfl ?_
  exact gh_vret hK hE d_Str_checkIndex_9 (Nat.le_of_ble_eq_true rfl) (Nat.le_of_ble_eq_true rfl) ⟨rfl, rfl⟩
set_option maxRecDepth 20000 in
set_option maxHeartbeats 4000000 in
theorem c_SL1_charAt (l : Launch) (G : GG) {g : GH} {i j : Nat} (hi : i < st_N) (hj : j < (st_txt.getD i []).length) : gMet l G y_SL1_charAt b_SL1_charAt 2 (some .char) (rmk 2 0 0 43) [.ref (G.2.2.2.1 i), .int (nI j)] g (fun v g' => v = some (.int (nI ((st_txt.getD i []).getD j 0))) ∧ g' = g) := by
  refine gMet.of [some (.ref (G.2.2.2.1 i)), some (.int (nI j))] (by decide +kernel) rfl (Nat.le_of_ble_eq_true rfl) rfl (fun X hK hI hE => ?_)
  obtain ⟨e1, e2, e3⟩ := st_all i hi
  obtain ⟨e4, e5⟩ := e3 j (by omega)
  refine gh_iload_n hK d_SL1_charAt_0 rfl ?_
  refine gh_aload_n hK d_SL1_charAt_1 rfl ?_
  refine gh_strL hK d_SL1_charAt_2 hi ?_
  refine gh_callS (rest := []) [.int (nI j), .int (nI (st_len.getD i 0))] hK (c_Str_checkIndex l G (g := g) (i := j) (j := st_len.getD i 0) (by omega) (by omega)) Y_Str_checkIndex V_Str_checkIndex km_SL1_9 rfl d_SL1_charAt_3 rfl rfl (Nat.le_of_ble_eq_true rfl) ⟨(Nat.le_of_ble_eq_true rfl), (Nat.le_of_ble_eq_true rfl)⟩ ⟨(Nat.le_of_ble_eq_true rfl), (Nat.le_of_ble_eq_true rfl)⟩ (fun v g' hp => ?_)
  rw [hp.1, hp.2]
  show gh_W l G _ X g _ _ [some (.ref (G.2.2.2.1 i)), some (.int (nI j))] 6 []
  refine gh_aload_n hK d_SL1_charAt_6 rfl ?_
  refine gh_iload_n hK d_SL1_charAt_7 rfl ?_
  refine gh_strB hK d_SL1_charAt_8 hi (by omega) (by omega) ?_
  rw [e4]
  refine gh_sipush (v := nI 255) hK d_SL1_charAt_9 (by decide) ?_
  refine gh_iand hK d_SL1_charAt_12 ?_
  refine gh_i2c (v := nI ((st_txt.getD i []).getD j 0)) hK d_SL1_charAt_13 (ch_255 e5) ?_
  exact gh_zret (pk_charN (by omega)).1 hK hE d_SL1_charAt_14 (Nat.le_of_ble_eq_true rfl) (Nat.le_of_ble_eq_true rfl) ⟨rfl, rfl⟩
set_option maxRecDepth 20000 in
set_option maxHeartbeats 4000000 in
theorem c_Str_charAt (l : Launch) (G : GG) {g : GH} {i j : Nat} (hi : i < st_N) (hj : j < (st_txt.getD i []).length) : gMet l G y_Str_charAt b_Str_charAt 2 (some .char) (rmk 3 0 0 64) [.ref (G.2.2.1 i), .int (nI j)] g (fun v g' => v = some (.int (nI ((st_txt.getD i []).getD j 0))) ∧ g' = g) := by
  refine gMet.of [some (.ref (G.2.2.1 i)), some (.int (nI j))] (by decide +kernel) rfl (Nat.le_of_ble_eq_true rfl) rfl (fun X hK hI hE => ?_)
  obtain ⟨e1, e2, e3⟩ := st_all i hi
  obtain ⟨e4, e5⟩ := e3 j (by omega)
  refine gh_aload_n hK d_Str_charAt_0 rfl ?_
  refine gh_callVs (i := i) (rest := []) [] hK (c_Str_isLatin1 l G (g := g) hi) Y_Str_isLatin1 V_Str_isLatin1 km_Str_492 hi rfl rfl d_Str_charAt_1 rfl rfl (Nat.le_of_ble_eq_true rfl) ⟨(Nat.le_of_ble_eq_true rfl), (Nat.le_of_ble_eq_true rfl)⟩ ⟨(Nat.le_of_ble_eq_true rfl), (Nat.le_of_ble_eq_true rfl)⟩ (fun v g' hp => ?_)
  rw [hp.1, hp.2]
  show gh_W l G _ X g _ _ [some (.ref (G.2.2.1 i)), some (.int (nI j))] 4 [.int (nI 1)]
  refine gh_if_eqN hK d_Str_charAt_4 (tgt := 16) (by decide) (by decide) (fun z => absurd z (by decide)) (fun z => ?_)
  refine gh_aload_n hK d_Str_charAt_7 rfl ?_
  refine gh_strV hK d_Str_charAt_8 hi kf_Str_9 ?_
  refine gh_iload_n hK d_Str_charAt_11 rfl ?_
  refine gh_callS (rest := []) [.ref (G.2.2.2.1 i), .int (nI j)] hK (c_SL1_charAt l G (g := g) hi hj) Y_SL1_charAt V_SL1_charAt km_Str_495 rfl d_Str_charAt_12 rfl rfl (Nat.le_of_ble_eq_true rfl) ⟨(Nat.le_of_ble_eq_true rfl), (Nat.le_of_ble_eq_true rfl)⟩ ⟨(Nat.le_of_ble_eq_true rfl), (Nat.le_of_ble_eq_true rfl)⟩ (fun v g' hp => ?_)
  rw [hp.1, hp.2]
  show gh_W l G _ X g _ _ [some (.ref (G.2.2.1 i)), some (.int (nI j))] 15 [.int (nI ((st_txt.getD i []).getD j 0))]
  exact gh_zret (pk_charN (by omega)).1 hK hE d_Str_charAt_15 (Nat.le_of_ble_eq_true rfl) (Nat.le_of_ble_eq_true rfl) ⟨rfl, rfl⟩
end
section
abbrev b_Pr_init : ByteArray := prog_6_method_1_code
def y_Pr_init : MethodName := ⟨"SpellDesk$Printer", "<init>", "()V"⟩
set_option maxRecDepth 20000 in
theorem Y_Pr_init : gh_Y y_Pr_init b_Pr_init 1 none 0 := ⟨gt_in (i := 89) rfl rfl, gt_in (i := 5) (by decide +kernel) rfl, by decide +kernel, by decide +kernel, by decide +kernel⟩
theorem V_Pr_init : Cond.instanceMethod y_Pr_init ∈ gTbl := (gt_in (i := 88) (by decide +kernel) rfl)
theorem d_Pr_init_0 : decode b_Pr_init 0 = .ok (.aload_n 0, 1) := by decide +kernel
theorem d_Pr_init_1 : decode b_Pr_init 1 = .ok (.invokespecial 3, 3) := by decide +kernel
theorem d_Pr_init_4 : decode b_Pr_init 4 = .ok (.aload_n 0, 1) := by decide +kernel
theorem d_Pr_init_5 : decode b_Pr_init 5 = .ok (.new 9, 3) := by decide +kernel
theorem d_Pr_init_8 : decode b_Pr_init 8 = .ok (.dup, 1) := by decide +kernel
theorem d_Pr_init_9 : decode b_Pr_init 9 = .ok (.sipush 6000, 3) := by decide +kernel
theorem d_Pr_init_12 : decode b_Pr_init 12 = .ok (.invokespecial 11, 3) := by decide +kernel
theorem d_Pr_init_15 : decode b_Pr_init 15 = .ok (.putfield 14, 3) := by decide +kernel
theorem d_Pr_init_18 : decode b_Pr_init 18 = .ok (.return_, 1) := by decide +kernel
abbrev b_Pr_printText : ByteArray := prog_6_method_6_code
def y_Pr_printText : MethodName := ⟨"SpellDesk$Printer", "printText", "(Ljava/lang/String;)V"⟩
set_option maxRecDepth 20000 in
theorem Y_Pr_printText : gh_Y y_Pr_printText b_Pr_printText 3 none 1 := ⟨gt_in (i := 411) rfl rfl, gt_in (i := 5) (by decide +kernel) rfl, by decide +kernel, by decide +kernel, by decide +kernel⟩
theorem V_Pr_printText : Cond.instanceMethod y_Pr_printText ∈ gTbl ∧ Cond.selects y_Pr_printText.cls y_Pr_printText y_Pr_printText ∈ gTbl := ⟨(gt_in (i := 409) (by decide +kernel) rfl), (gt_in (i := 410) (by decide +kernel) rfl)⟩
theorem d_Pr_printText_0 : decode b_Pr_printText 0 = .ok (.iconst 0, 1) := by decide +kernel
theorem d_Pr_printText_1 : decode b_Pr_printText 1 = .ok (.istore_n 2, 1) := by decide +kernel
theorem d_Pr_printText_2 : decode b_Pr_printText 2 = .ok (.iload_n 2, 1) := by decide +kernel
theorem d_Pr_printText_3 : decode b_Pr_printText 3 = .ok (.aload_n 1, 1) := by decide +kernel
theorem d_Pr_printText_4 : decode b_Pr_printText 4 = .ok (.invokevirtual 35, 3) := by decide +kernel
theorem d_Pr_printText_7 : decode b_Pr_printText 7 = .ok (.if_icmp .ge 18, 3) := by decide +kernel
theorem d_Pr_printText_10 : decode b_Pr_printText 10 = .ok (.aload_n 0, 1) := by decide +kernel
theorem d_Pr_printText_11 : decode b_Pr_printText 11 = .ok (.aload_n 1, 1) := by decide +kernel
theorem d_Pr_printText_12 : decode b_Pr_printText 12 = .ok (.iload_n 2, 1) := by decide +kernel
theorem d_Pr_printText_13 : decode b_Pr_printText 13 = .ok (.invokevirtual 40, 3) := by decide +kernel
theorem d_Pr_printText_16 : decode b_Pr_printText 16 = .ok (.invokevirtual 43, 3) := by decide +kernel
theorem d_Pr_printText_19 : decode b_Pr_printText 19 = .ok (.iinc 2 1, 3) := by decide +kernel
theorem d_Pr_printText_22 : decode b_Pr_printText 22 = .ok (.goto (-20), 3) := by decide +kernel
theorem d_Pr_printText_25 : decode b_Pr_printText 25 = .ok (.return_, 1) := by decide +kernel
abbrev b_Pr_print : ByteArray := prog_6_method_13_code
def y_Pr_print : MethodName := ⟨"SpellDesk$Printer", "print", "(C)V"⟩
set_option maxRecDepth 20000 in
theorem Y_Pr_print : gh_Y y_Pr_print b_Pr_print 2 none 1 := ⟨gt_in (i := 417) rfl rfl, gt_in (i := 5) (by decide +kernel) rfl, by decide +kernel, by decide +kernel, by decide +kernel⟩
theorem V_Pr_print : Cond.instanceMethod y_Pr_print ∈ gTbl ∧ Cond.selects y_Pr_print.cls y_Pr_print y_Pr_print ∈ gTbl := ⟨(gt_in (i := 416) (by decide +kernel) rfl), (gt_sel (n := 3) (i := 2) (by decide +kernel))⟩
theorem d_Pr_print_0 : decode b_Pr_print 0 = .ok (.aload_n 0, 1) := by decide +kernel
theorem d_Pr_print_1 : decode b_Pr_print 1 = .ok (.getfield 14, 3) := by decide +kernel
theorem d_Pr_print_4 : decode b_Pr_print 4 = .ok (.iload_n 1, 1) := by decide +kernel
theorem d_Pr_print_5 : decode b_Pr_print 5 = .ok (.invokevirtual 57, 3) := by decide +kernel
theorem d_Pr_print_8 : decode b_Pr_print 8 = .ok (.ifCond .ne 13, 3) := by decide +kernel
theorem d_Pr_print_11 : decode b_Pr_print 11 = .ok (.aload_n 0, 1) := by decide +kernel
theorem d_Pr_print_12 : decode b_Pr_print 12 = .ok (.dup, 1) := by decide +kernel
theorem d_Pr_print_13 : decode b_Pr_print 13 = .ok (.getfield 28, 3) := by decide +kernel
theorem d_Pr_print_16 : decode b_Pr_print 16 = .ok (.iconst 1, 1) := by decide +kernel
theorem d_Pr_print_17 : decode b_Pr_print 17 = .ok (.iadd, 1) := by decide +kernel
theorem d_Pr_print_18 : decode b_Pr_print 18 = .ok (.putfield 28, 3) := by decide +kernel
theorem d_Pr_print_21 : decode b_Pr_print 21 = .ok (.return_, 1) := by decide +kernel
abbrev b_Pr_printItem : ByteArray := prog_6_method_10_code
def y_Pr_printItem : MethodName := ⟨"SpellDesk$Printer", "printItem", "(LSpellDesk$Letters;II)V"⟩
set_option maxRecDepth 20000 in
theorem Y_Pr_printItem : gh_Y y_Pr_printItem b_Pr_printItem 4 none 3 := ⟨gt_in (i := 953) rfl rfl, gt_in (i := 5) (by decide +kernel) rfl, by decide +kernel, by decide +kernel, by decide +kernel⟩
theorem V_Pr_printItem : Cond.instanceMethod y_Pr_printItem ∈ gTbl ∧ Cond.selects y_Pr_printItem.cls y_Pr_printItem y_Pr_printItem ∈ gTbl := ⟨(gt_in (i := 951) (by decide +kernel) rfl), (gt_in (i := 952) (by decide +kernel) rfl)⟩
theorem d_Pr_printItem_0 : decode b_Pr_printItem 0 = .ok (.aload_n 0, 1) := by decide +kernel
theorem d_Pr_printItem_1 : decode b_Pr_printItem 1 = .ok (.invokevirtual 50, 3) := by decide +kernel
theorem d_Pr_printItem_4 : decode b_Pr_printItem 4 = .ok (.aload_n 0, 1) := by decide +kernel
theorem d_Pr_printItem_5 : decode b_Pr_printItem 5 = .ok (.aload_n 1, 1) := by decide +kernel
theorem d_Pr_printItem_6 : decode b_Pr_printItem 6 = .ok (.iload_n 2, 1) := by decide +kernel
theorem d_Pr_printItem_7 : decode b_Pr_printItem 7 = .ok (.iload_n 3, 1) := by decide +kernel
theorem d_Pr_printItem_8 : decode b_Pr_printItem 8 = .ok (.invokevirtual 53, 3) := by decide +kernel
theorem d_Pr_printItem_11 : decode b_Pr_printItem 11 = .ok (.return_, 1) := by decide +kernel
abbrev b_Pr_startItem : ByteArray := prog_6_method_9_code
def y_Pr_startItem : MethodName := ⟨"SpellDesk$Printer", "startItem", "()V"⟩
set_option maxRecDepth 20000 in
theorem Y_Pr_startItem : gh_Y y_Pr_startItem b_Pr_startItem 1 none 0 := ⟨gt_in (i := 957) rfl rfl, gt_in (i := 5) (by decide +kernel) rfl, by decide +kernel, by decide +kernel, by decide +kernel⟩
theorem V_Pr_startItem : Cond.instanceMethod y_Pr_startItem ∈ gTbl ∧ Cond.selects y_Pr_startItem.cls y_Pr_startItem y_Pr_startItem ∈ gTbl := ⟨(gt_in (i := 955) (by decide +kernel) rfl), (gt_in (i := 956) (by decide +kernel) rfl)⟩
theorem d_Pr_startItem_0 : decode b_Pr_startItem 0 = .ok (.aload_n 0, 1) := by decide +kernel
theorem d_Pr_startItem_1 : decode b_Pr_startItem 1 = .ok (.getfield 47, 3) := by decide +kernel
theorem d_Pr_startItem_4 : decode b_Pr_startItem 4 = .ok (.ifCond .le 9, 3) := by decide +kernel
theorem d_Pr_startItem_7 : decode b_Pr_startItem 7 = .ok (.aload_n 0, 1) := by decide +kernel
theorem d_Pr_startItem_8 : decode b_Pr_startItem 8 = .ok (.bipush 32, 2) := by decide +kernel
theorem d_Pr_startItem_10 : decode b_Pr_startItem 10 = .ok (.invokevirtual 43, 3) := by decide +kernel
theorem d_Pr_startItem_13 : decode b_Pr_startItem 13 = .ok (.aload_n 0, 1) := by decide +kernel
theorem d_Pr_startItem_14 : decode b_Pr_startItem 14 = .ok (.dup, 1) := by decide +kernel
theorem d_Pr_startItem_15 : decode b_Pr_startItem 15 = .ok (.getfield 47, 3) := by decide +kernel
theorem d_Pr_startItem_18 : decode b_Pr_startItem 18 = .ok (.iconst 1, 1) := by decide +kernel
theorem d_Pr_startItem_19 : decode b_Pr_startItem 19 = .ok (.iadd, 1) := by decide +kernel
theorem d_Pr_startItem_20 : decode b_Pr_startItem 20 = .ok (.putfield 47, 3) := by decide +kernel
theorem d_Pr_startItem_23 : decode b_Pr_startItem 23 = .ok (.return_, 1) := by decide +kernel
abbrev b_Pr_printLetters : ByteArray := prog_6_method_7_code
def y_Pr_printLetters : MethodName := ⟨"SpellDesk$Printer", "printLetters", "(LSpellDesk$Letters;II)V"⟩
set_option maxRecDepth 20000 in
theorem Y_Pr_printLetters : gh_Y y_Pr_printLetters b_Pr_printLetters 5 none 3 := ⟨gt_in (i := 961) rfl rfl, gt_in (i := 5) (by decide +kernel) rfl, by decide +kernel, by decide +kernel, by decide +kernel⟩
theorem V_Pr_printLetters : Cond.instanceMethod y_Pr_printLetters ∈ gTbl ∧ Cond.selects y_Pr_printLetters.cls y_Pr_printLetters y_Pr_printLetters ∈ gTbl := ⟨(gt_in (i := 959) (by decide +kernel) rfl), (gt_in (i := 960) (by decide +kernel) rfl)⟩
theorem d_Pr_printLetters_0 : decode b_Pr_printLetters 0 = .ok (.iconst 0, 1) := by decide +kernel
theorem d_Pr_printLetters_1 : decode b_Pr_printLetters 1 = .ok (.istore 4, 2) := by decide +kernel
theorem d_Pr_printLetters_3 : decode b_Pr_printLetters 3 = .ok (.iload 4, 2) := by decide +kernel
theorem d_Pr_printLetters_5 : decode b_Pr_printLetters 5 = .ok (.iload_n 3, 1) := by decide +kernel
theorem d_Pr_printLetters_6 : decode b_Pr_printLetters 6 = .ok (.if_icmp .ge 21, 3) := by decide +kernel
theorem d_Pr_printLetters_9 : decode b_Pr_printLetters 9 = .ok (.aload_n 0, 1) := by decide +kernel
theorem d_Pr_printLetters_10 : decode b_Pr_printLetters 10 = .ok (.aload_n 1, 1) := by decide +kernel
theorem d_Pr_printLetters_11 : decode b_Pr_printLetters 11 = .ok (.iload_n 2, 1) := by decide +kernel
theorem d_Pr_printLetters_12 : decode b_Pr_printLetters 12 = .ok (.iload 4, 2) := by decide +kernel
theorem d_Pr_printLetters_14 : decode b_Pr_printLetters 14 = .ok (.iadd, 1) := by decide +kernel
theorem d_Pr_printLetters_15 : decode b_Pr_printLetters 15 = .ok (.invokevirtual 24, 3) := by decide +kernel
theorem d_Pr_printLetters_18 : decode b_Pr_printLetters 18 = .ok (.invokevirtual 43, 3) := by decide +kernel
theorem d_Pr_printLetters_21 : decode b_Pr_printLetters 21 = .ok (.iinc 4 1, 3) := by decide +kernel
theorem d_Pr_printLetters_24 : decode b_Pr_printLetters 24 = .ok (.goto (-21), 3) := by decide +kernel
theorem d_Pr_printLetters_27 : decode b_Pr_printLetters 27 = .ok (.return_, 1) := by decide +kernel
abbrev b_Pr_endItems : ByteArray := prog_6_method_11_code
def y_Pr_endItems : MethodName := ⟨"SpellDesk$Printer", "endItems", "()V"⟩
set_option maxRecDepth 20000 in
theorem Y_Pr_endItems : gh_Y y_Pr_endItems b_Pr_endItems 1 none 0 := ⟨gt_in (i := 966) rfl rfl, gt_in (i := 5) (by decide +kernel) rfl, by decide +kernel, by decide +kernel, by decide +kernel⟩
theorem V_Pr_endItems : Cond.instanceMethod y_Pr_endItems ∈ gTbl ∧ Cond.selects y_Pr_endItems.cls y_Pr_endItems y_Pr_endItems ∈ gTbl := ⟨(gt_in (i := 964) (by decide +kernel) rfl), (gt_in (i := 965) (by decide +kernel) rfl)⟩
theorem d_Pr_endItems_0 : decode b_Pr_endItems 0 = .ok (.aload_n 0, 1) := by decide +kernel
theorem d_Pr_endItems_1 : decode b_Pr_endItems 1 = .ok (.getfield 47, 3) := by decide +kernel
theorem d_Pr_endItems_4 : decode b_Pr_endItems 4 = .ok (.ifCond .ne 9, 3) := by decide +kernel
theorem d_Pr_endItems_7 : decode b_Pr_endItems 7 = .ok (.aload_n 0, 1) := by decide +kernel
theorem d_Pr_endItems_8 : decode b_Pr_endItems 8 = .ok (.bipush 45, 2) := by decide +kernel
theorem d_Pr_endItems_10 : decode b_Pr_endItems 10 = .ok (.invokevirtual 43, 3) := by decide +kernel
theorem d_Pr_endItems_13 : decode b_Pr_endItems 13 = .ok (.return_, 1) := by decide +kernel
abbrev b_Pr_printNumber : ByteArray := prog_6_method_8_code
def y_Pr_printNumber : MethodName := ⟨"SpellDesk$Printer", "printNumber", "(I)V"⟩
set_option maxRecDepth 20000 in
theorem Y_Pr_printNumber : gh_Y y_Pr_printNumber b_Pr_printNumber 4 none 1 := ⟨gt_in (i := 1010) rfl rfl, gt_in (i := 5) (by decide +kernel) rfl, by decide +kernel, by decide +kernel, by decide +kernel⟩
theorem V_Pr_printNumber : Cond.instanceMethod y_Pr_printNumber ∈ gTbl ∧ Cond.selects y_Pr_printNumber.cls y_Pr_printNumber y_Pr_printNumber ∈ gTbl := ⟨(gt_in (i := 1008) (by decide +kernel) rfl), (gt_in (i := 1009) (by decide +kernel) rfl)⟩
theorem d_Pr_printNumber_0 : decode b_Pr_printNumber 0 = .ok (.iconst 1, 1) := by decide +kernel
theorem d_Pr_printNumber_1 : decode b_Pr_printNumber 1 = .ok (.istore_n 2, 1) := by decide +kernel
theorem d_Pr_printNumber_2 : decode b_Pr_printNumber 2 = .ok (.iload_n 1, 1) := by decide +kernel
theorem d_Pr_printNumber_3 : decode b_Pr_printNumber 3 = .ok (.bipush 10, 2) := by decide +kernel
theorem d_Pr_printNumber_5 : decode b_Pr_printNumber 5 = .ok (.idiv, 1) := by decide +kernel
theorem d_Pr_printNumber_6 : decode b_Pr_printNumber 6 = .ok (.istore_n 3, 1) := by decide +kernel
theorem d_Pr_printNumber_7 : decode b_Pr_printNumber 7 = .ok (.iload_n 3, 1) := by decide +kernel
theorem d_Pr_printNumber_8 : decode b_Pr_printNumber 8 = .ok (.ifCond .le 16, 3) := by decide +kernel
theorem d_Pr_printNumber_11 : decode b_Pr_printNumber 11 = .ok (.iload_n 2, 1) := by decide +kernel
theorem d_Pr_printNumber_12 : decode b_Pr_printNumber 12 = .ok (.bipush 10, 2) := by decide +kernel
theorem d_Pr_printNumber_14 : decode b_Pr_printNumber 14 = .ok (.imul, 1) := by decide +kernel
theorem d_Pr_printNumber_15 : decode b_Pr_printNumber 15 = .ok (.istore_n 2, 1) := by decide +kernel
theorem d_Pr_printNumber_16 : decode b_Pr_printNumber 16 = .ok (.iload_n 3, 1) := by decide +kernel
theorem d_Pr_printNumber_17 : decode b_Pr_printNumber 17 = .ok (.bipush 10, 2) := by decide +kernel
theorem d_Pr_printNumber_19 : decode b_Pr_printNumber 19 = .ok (.idiv, 1) := by decide +kernel
theorem d_Pr_printNumber_20 : decode b_Pr_printNumber 20 = .ok (.istore_n 3, 1) := by decide +kernel
theorem d_Pr_printNumber_21 : decode b_Pr_printNumber 21 = .ok (.goto (-14), 3) := by decide +kernel
theorem d_Pr_printNumber_24 : decode b_Pr_printNumber 24 = .ok (.iload_n 2, 1) := by decide +kernel
theorem d_Pr_printNumber_25 : decode b_Pr_printNumber 25 = .ok (.istore_n 3, 1) := by decide +kernel
theorem d_Pr_printNumber_26 : decode b_Pr_printNumber 26 = .ok (.iload_n 3, 1) := by decide +kernel
theorem d_Pr_printNumber_27 : decode b_Pr_printNumber 27 = .ok (.ifCond .le 25, 3) := by decide +kernel
theorem d_Pr_printNumber_30 : decode b_Pr_printNumber 30 = .ok (.aload_n 0, 1) := by decide +kernel
theorem d_Pr_printNumber_31 : decode b_Pr_printNumber 31 = .ok (.bipush 48, 2) := by decide +kernel
theorem d_Pr_printNumber_33 : decode b_Pr_printNumber 33 = .ok (.iload_n 1, 1) := by decide +kernel
theorem d_Pr_printNumber_34 : decode b_Pr_printNumber 34 = .ok (.iload_n 3, 1) := by decide +kernel
theorem d_Pr_printNumber_35 : decode b_Pr_printNumber 35 = .ok (.idiv, 1) := by decide +kernel
theorem d_Pr_printNumber_36 : decode b_Pr_printNumber 36 = .ok (.bipush 10, 2) := by decide +kernel
theorem d_Pr_printNumber_38 : decode b_Pr_printNumber 38 = .ok (.irem, 1) := by decide +kernel
theorem d_Pr_printNumber_39 : decode b_Pr_printNumber 39 = .ok (.iadd, 1) := by decide +kernel
theorem d_Pr_printNumber_40 : decode b_Pr_printNumber 40 = .ok (.i2c, 1) := by decide +kernel
theorem d_Pr_printNumber_41 : decode b_Pr_printNumber 41 = .ok (.invokevirtual 43, 3) := by decide +kernel
theorem d_Pr_printNumber_44 : decode b_Pr_printNumber 44 = .ok (.iload_n 3, 1) := by decide +kernel
theorem d_Pr_printNumber_45 : decode b_Pr_printNumber 45 = .ok (.bipush 10, 2) := by decide +kernel
theorem d_Pr_printNumber_47 : decode b_Pr_printNumber 47 = .ok (.idiv, 1) := by decide +kernel
theorem d_Pr_printNumber_48 : decode b_Pr_printNumber 48 = .ok (.istore_n 3, 1) := by decide +kernel
theorem d_Pr_printNumber_49 : decode b_Pr_printNumber 49 = .ok (.goto (-23), 3) := by decide +kernel
theorem d_Pr_printNumber_52 : decode b_Pr_printNumber 52 = .ok (.return_, 1) := by decide +kernel
abbrev b_Pr_endLine : ByteArray := prog_6_method_12_code
def y_Pr_endLine : MethodName := ⟨"SpellDesk$Printer", "endLine", "()V"⟩
set_option maxRecDepth 20000 in
theorem Y_Pr_endLine : gh_Y y_Pr_endLine b_Pr_endLine 1 none 0 := ⟨gt_in (i := 1064) rfl rfl, gt_in (i := 5) (by decide +kernel) rfl, by decide +kernel, by decide +kernel, by decide +kernel⟩
theorem V_Pr_endLine : Cond.instanceMethod y_Pr_endLine ∈ gTbl ∧ Cond.selects y_Pr_endLine.cls y_Pr_endLine y_Pr_endLine ∈ gTbl := ⟨(gt_in (i := 1062) (by decide +kernel) rfl), (gt_in (i := 1063) (by decide +kernel) rfl)⟩
theorem d_Pr_endLine_0 : decode b_Pr_endLine 0 = .ok (.aload_n 0, 1) := by decide +kernel
theorem d_Pr_endLine_1 : decode b_Pr_endLine 1 = .ok (.bipush 10, 2) := by decide +kernel
theorem d_Pr_endLine_3 : decode b_Pr_endLine 3 = .ok (.invokevirtual 43, 3) := by decide +kernel
theorem d_Pr_endLine_6 : decode b_Pr_endLine 6 = .ok (.aload_n 0, 1) := by decide +kernel
theorem d_Pr_endLine_7 : decode b_Pr_endLine 7 = .ok (.iconst 0, 1) := by decide +kernel
theorem d_Pr_endLine_8 : decode b_Pr_endLine 8 = .ok (.putfield 47, 3) := by decide +kernel
theorem d_Pr_endLine_11 : decode b_Pr_endLine 11 = .ok (.return_, 1) := by decide +kernel
abbrev b_Pr_count : ByteArray := prog_6_method_2_code
def y_Pr_count : MethodName := ⟨"SpellDesk$Printer", "count", "()I"⟩
set_option maxRecDepth 20000 in
theorem Y_Pr_count : gh_Y y_Pr_count b_Pr_count 1 (some .int) 0 := ⟨gt_in (i := 1073) rfl rfl, gt_in (i := 5) (by decide +kernel) rfl, by decide +kernel, by decide +kernel, by decide +kernel⟩
theorem V_Pr_count : Cond.instanceMethod y_Pr_count ∈ gTbl ∧ Cond.selects y_Pr_count.cls y_Pr_count y_Pr_count ∈ gTbl := ⟨(gt_in (i := 1071) (by decide +kernel) rfl), (gt_in (i := 1072) (by decide +kernel) rfl)⟩
theorem d_Pr_count_0 : decode b_Pr_count 0 = .ok (.aload_n 0, 1) := by decide +kernel
theorem d_Pr_count_1 : decode b_Pr_count 1 = .ok (.getfield 14, 3) := by decide +kernel
theorem d_Pr_count_4 : decode b_Pr_count 4 = .ok (.invokevirtual 20, 3) := by decide +kernel
theorem d_Pr_count_7 : decode b_Pr_count 7 = .ok (.ireturn, 1) := by decide +kernel
abbrev b_Pr_lostCount : ByteArray := prog_6_method_4_code
def y_Pr_lostCount : MethodName := ⟨"SpellDesk$Printer", "lostCount", "()I"⟩
set_option maxRecDepth 20000 in
theorem Y_Pr_lostCount : gh_Y y_Pr_lostCount b_Pr_lostCount 1 (some .int) 0 := ⟨gt_in (i := 1082) rfl rfl, gt_in (i := 5) (by decide +kernel) rfl, by decide +kernel, by decide +kernel, by decide +kernel⟩
theorem V_Pr_lostCount : Cond.instanceMethod y_Pr_lostCount ∈ gTbl ∧ Cond.selects y_Pr_lostCount.cls y_Pr_lostCount y_Pr_lostCount ∈ gTbl := ⟨(gt_in (i := 1080) (by decide +kernel) rfl), (gt_in (i := 1081) (by decide +kernel) rfl)⟩
theorem d_Pr_lostCount_0 : decode b_Pr_lostCount 0 = .ok (.aload_n 0, 1) := by decide +kernel
theorem d_Pr_lostCount_1 : decode b_Pr_lostCount 1 = .ok (.getfield 28, 3) := by decide +kernel
theorem d_Pr_lostCount_4 : decode b_Pr_lostCount 4 = .ok (.ireturn, 1) := by decide +kernel
abbrev b_Pr_clear : ByteArray := prog_6_method_5_code
def y_Pr_clear : MethodName := ⟨"SpellDesk$Printer", "clear", "()V"⟩
set_option maxRecDepth 20000 in
theorem Y_Pr_clear : gh_Y y_Pr_clear b_Pr_clear 1 none 0 := ⟨gt_in (i := 1090) rfl rfl, gt_in (i := 5) (by decide +kernel) rfl, by decide +kernel, by decide +kernel, by decide +kernel⟩
theorem V_Pr_clear : Cond.instanceMethod y_Pr_clear ∈ gTbl ∧ Cond.selects y_Pr_clear.cls y_Pr_clear y_Pr_clear ∈ gTbl := ⟨(gt_in (i := 1088) (by decide +kernel) rfl), (gt_in (i := 1089) (by decide +kernel) rfl)⟩
theorem d_Pr_clear_0 : decode b_Pr_clear 0 = .ok (.aload_n 0, 1) := by decide +kernel
theorem d_Pr_clear_1 : decode b_Pr_clear 1 = .ok (.getfield 14, 3) := by decide +kernel
theorem d_Pr_clear_4 : decode b_Pr_clear 4 = .ok (.invokevirtual 32, 3) := by decide +kernel
theorem d_Pr_clear_7 : decode b_Pr_clear 7 = .ok (.aload_n 0, 1) := by decide +kernel
theorem d_Pr_clear_8 : decode b_Pr_clear 8 = .ok (.iconst 0, 1) := by decide +kernel
theorem d_Pr_clear_9 : decode b_Pr_clear 9 = .ok (.putfield 28, 3) := by decide +kernel
theorem d_Pr_clear_12 : decode b_Pr_clear 12 = .ok (.return_, 1) := by decide +kernel
abbrev b_Pr_at : ByteArray := prog_6_method_3_code
def y_Pr_at : MethodName := ⟨"SpellDesk$Printer", "at", "(I)C"⟩
set_option maxRecDepth 20000 in
theorem Y_Pr_at : gh_Y y_Pr_at b_Pr_at 2 (some .char) 1 := ⟨gt_in (i := 1146) rfl rfl, gt_in (i := 5) (by decide +kernel) rfl, by decide +kernel, by decide +kernel, by decide +kernel⟩
theorem V_Pr_at : Cond.instanceMethod y_Pr_at ∈ gTbl ∧ Cond.selects y_Pr_at.cls y_Pr_at y_Pr_at ∈ gTbl := ⟨(gt_in (i := 1144) (by decide +kernel) rfl), (gt_in (i := 1145) (by decide +kernel) rfl)⟩
theorem d_Pr_at_0 : decode b_Pr_at 0 = .ok (.aload_n 0, 1) := by decide +kernel
theorem d_Pr_at_1 : decode b_Pr_at 1 = .ok (.getfield 14, 3) := by decide +kernel
theorem d_Pr_at_4 : decode b_Pr_at 4 = .ok (.iload_n 1, 1) := by decide +kernel
theorem d_Pr_at_5 : decode b_Pr_at 5 = .ok (.invokevirtual 24, 3) := by decide +kernel
theorem d_Pr_at_8 : decode b_Pr_at 8 = .ok (.ireturn, 1) := by decide +kernel
theorem kf_Pr_14 : Cond.fieldLink "SpellDesk$Printer" 14 "SpellDesk$Printer" "printed" "LSpellDesk$Letters;" ∈ gTbl := (gt_in (i := 93) (by decide +kernel) rfl)
theorem kf_Pr_28 : Cond.fieldLink "SpellDesk$Printer" 28 "SpellDesk$Printer" "lostCount" "I" ∈ gTbl := (gt_in (i := 94) (by decide +kernel) rfl)
theorem kf_Pr_47 : Cond.fieldLink "SpellDesk$Printer" 47 "SpellDesk$Printer" "items" "I" ∈ gTbl := (gt_in (i := 95) (by decide +kernel) rfl)
theorem kc_Pr_9 : Cond.classLink "SpellDesk$Printer" 9 "SpellDesk$Letters" ∈ gTbl := (gt_in (i := 91) (by decide +kernel) rfl)
theorem km_Pr_3 : Cond.methodLink "SpellDesk$Printer" 3 ⟨"java/lang/Object", "<init>", "()V"⟩ ∈ gTbl := (gt_in (i := 90) (by decide +kernel) rfl)
theorem km_Pr_11 : Cond.methodLink "SpellDesk$Printer" 11 ⟨"SpellDesk$Letters", "<init>", "(I)V"⟩ ∈ gTbl := (gt_in (i := 92) (by decide +kernel) rfl)
theorem km_Pr_20 : Cond.methodLink "SpellDesk$Printer" 20 ⟨"SpellDesk$Letters", "count", "()I"⟩ ∈ gTbl := (gt_in (i := 1074) (by decide +kernel) rfl)
theorem km_Pr_24 : Cond.methodLink "SpellDesk$Printer" 24 ⟨"SpellDesk$Letters", "at", "(I)C"⟩ ∈ gTbl := (gt_in (i := 962) (by decide +kernel) rfl)
theorem km_Pr_32 : Cond.methodLink "SpellDesk$Printer" 32 ⟨"SpellDesk$Letters", "clear", "()V"⟩ ∈ gTbl := (gt_in (i := 1091) (by decide +kernel) rfl)
theorem km_Pr_35 : Cond.methodLink "SpellDesk$Printer" 35 ⟨"java/lang/String", "length", "()I"⟩ ∈ gTbl := (gt_in (i := 412) (by decide +kernel) rfl)
theorem km_Pr_40 : Cond.methodLink "SpellDesk$Printer" 40 ⟨"java/lang/String", "charAt", "(I)C"⟩ ∈ gTbl := (gt_in (i := 413) (by decide +kernel) rfl)
theorem km_Pr_43 : Cond.methodLink "SpellDesk$Printer" 43 ⟨"SpellDesk$Printer", "print", "(C)V"⟩ ∈ gTbl := (gt_in (i := 414) (by decide +kernel) rfl)
theorem km_Pr_50 : Cond.methodLink "SpellDesk$Printer" 50 ⟨"SpellDesk$Printer", "startItem", "()V"⟩ ∈ gTbl := (gt_in (i := 954) (by decide +kernel) rfl)
theorem km_Pr_53 : Cond.methodLink "SpellDesk$Printer" 53 ⟨"SpellDesk$Printer", "printLetters", "(LSpellDesk$Letters;II)V"⟩ ∈ gTbl := (gt_in (i := 958) (by decide +kernel) rfl)
theorem km_Pr_57 : Cond.methodLink "SpellDesk$Printer" 57 ⟨"SpellDesk$Letters", "append", "(C)Z"⟩ ∈ gTbl := (gt_in (i := 418) (by decide +kernel) rfl)
end
section
/-! THE OUTPUT as characters: at most 6000, the rest is lost -/
def prt (o : List Nat × Nat) (c : Nat) : List Nat × Nat := if o.1.length < 6000 then (o.1 ++ [c], o.2) else (o.1, o.2 + 1)
def prs (o : List Nat × Nat) (cs : List Nat) : List Nat × Nat := cs.foldl prt o
theorem prs_nil (o : List Nat × Nat) : prs o [] = o := rfl
theorem prs_cons (o : List Nat × Nat) (c : Nat) (cs : List Nat) : prs o (c :: cs) = prs (prt o c) cs := rfl
theorem prs_app (o : List Nat × Nat) (a b : List Nat) : prs o (a ++ b) = prs (prs o a) b := List.foldl_append ..
theorem prs_one (o : List Nat × Nat) (c : Nat) : prs o [c] = prt o c := rfl
/-- digits of n from the place k down -/
def dgs : Nat → Nat → List Nat
  | 0, n => [48 + n % 10]
  | k + 1, n => (48 + n / 10 ^ (k + 1) % 10) :: dgs k n
def nkd (n : Nat) : Nat := if n < 10 then 0 else if n < 100 then 1 else if n < 1000 then 2 else if n < 10000 then 3 else if n < 100000 then 4 else 5
def decL (n : Nat) : List Nat := dgs (nkd n) n
theorem nkd_of {n k : Nat} (hn : n < 1000000) (h1 : k = 0 ∨ 10 ^ k ≤ n) (h2 : n < 10 ^ (k + 1)) : k = nkd n := by
  unfold nkd
  rcases (show k = 0 ∨ k = 1 ∨ k = 2 ∨ k = 3 ∨ k = 4 ∨ k = 5 ∨ 6 ≤ k by omega) with rfl | rfl | rfl | rfl | rfl | rfl | h
  · simp at h2 ⊢; omega
  · simp at h1 h2 ⊢; (repeat' split) <;> omega
  · simp at h1 h2 ⊢; (repeat' split) <;> omega
  · simp at h1 h2 ⊢; (repeat' split) <;> omega
  · simp at h1 h2 ⊢; (repeat' split) <;> omega
  · simp at h1 h2 ⊢; (repeat' split) <;> omega
  · have h3 : 10 ^ 6 ≤ 10 ^ k := Nat.pow_le_pow_right (by omega) h
    have h4 : (10 : Nat) ^ 6 = 1000000 := by decide
    rcases h1 with h1 | h1 <;> omega
theorem p10_le {k m : Nat} (h : k ≤ m) : 10 ^ k ≤ 10 ^ m := Nat.pow_le_pow_right (by omega) h
theorem p10_pos (k : Nat) : 0 < 10 ^ k := Nat.pow_pos (by omega)
theorem p10_6 {k : Nat} (h : k ≤ 6) : 10 ^ k ≤ 1000000 := by
  have := p10_le h
  simpa using this
theorem p10_div (k : Nat) : 10 ^ (k + 1) / 10 = 10 ^ k := by rw [Nat.pow_succ]; exact Nat.mul_div_cancel _ (by omega)
theorem p10_dd (n k : Nat) : n / 10 ^ k / 10 = n / 10 ^ (k + 1) := by rw [Nat.div_div_eq_div_mul, Nat.pow_succ]
theorem p10_lt {n k : Nat} (h : n / 10 ^ k = 0) : n < 10 ^ k := by
  rcases Nat.div_eq_zero_iff.mp h with h | h
  · have := p10_pos k; omega
  · exact h
theorem p10_ge {n k : Nat} (h : 0 < n / 10 ^ k) : 10 ^ k ≤ n := by
  rcases Nat.lt_or_ge n (10 ^ k) with q | q
  · rw [Nat.div_eq_of_lt q] at h; omega
  · exact q
/-! THE PRINTER -/
def Pr (G : GG) (g : GH) (pa pl pb : Nat) (o : List Nat × Nat) (it : Nat) : Prop := g pa = some (4, .inr (5, [.ref pl, .int (nI o.2), .int (nI it)])) ∧ Lt G g pl 5 pb 6 6000 o.1
theorem Pr.N {G : GG} {g g' : GH} {pa pl pb it : Nat} {o : List Nat × Nat} {S : List Nat} (h : Pr G g pa pl pb o it) (hN : gh_N S g g') (h1 : pa ∉ S) (h2 : pl ∉ S) (h3 : pb ∉ S) : Pr G g' pa pl pb o it := ⟨by rw [hN pa h1 (by rw [h.1]; exact fun z => by cases z)]; exact h.1, h.2.N hN h2 h3⟩
theorem Pr.M {G : GG} {g g' : GH} {pa pl pb it : Nat} {o : List Nat × Nat} {S : List Nat} (h : Pr G g pa pl pb o it) (hM : gh_M S g g') (h1 : 4 ∉ S) (h2 : 5 ∉ S) (h3 : 6 ∉ S) : Pr G g' pa pl pb o it := ⟨hM pa 4 _ h.1 h1, h.2.M hM h2 h3⟩
theorem Pr.ne {G : GG} {g : GH} {pa pl pb it : Nat} {o : List Nat × Nat} (h : Pr G g pa pl pb o it) : pa ≠ pl ∧ pa ≠ pb ∧ pl ≠ pb := by
  obtain ⟨h1, f, ⟨h2, h3, -⟩, -⟩ := h
  exact ⟨gh_ne h1 h2 (by show (4 : Nat) ≠ 5; decide), gh_ne h1 h3 (by show (4 : Nat) ≠ 6; decide), gh_ne h2 h3 (by show (5 : Nat) ≠ 6; decide)⟩
/-- what printing changes -/
theorem Pr.toM {G : GG} {g g' : GH} {pa pl pb it : Nat} {o : List Nat × Nat} (h : Pr G g pa pl pb o it) (hN : gh_N [pa, pl, pb] g g') : gh_M [4, 5, 6] g g' := hN.M fun a ha => by
  obtain ⟨h1, f, ⟨h2, h3, -⟩, -⟩ := h
  rcases List.mem_cons.mp ha with rfl | ha
  · exact ⟨_, _, h1, by decide⟩
  · rcases List.mem_cons.mp ha with rfl | ha
    · exact ⟨_, _, h2, by decide⟩
    · rw [List.mem_singleton.mp ha]
      exact ⟨_, _, h3, by decide⟩
set_option maxRecDepth 20000 in
set_option maxHeartbeats 4000000 in
theorem c_Pr_count (l : Launch) (G : GG) {g : GH} {pa pl pb it : Nat} {o : List Nat × Nat} (h : Pr G g pa pl pb o it) : gMet l G y_Pr_count b_Pr_count 1 (some .int) (rmk 1 0 0 20) [.ref pa] g (fun v g' => v = some (.int (nI o.1.length)) ∧ g' = g) := by
  refine gMet.of [some (.ref pa)] (by decide +kernel) rfl (Nat.le_of_ble_eq_true rfl) rfl (fun X hK hI hE => ?_)
  refine gh_aload_n hK d_Pr_count_0 rfl ?_
  refine gh_get hK d_Pr_count_1 in_Pr rfl h.1 0 (by decide) kf_Pr_14 rfl rfl ?_
  refine gh_callV (rest := []) [] hK (c_Lt_count l G h.2) Y_Lt_count V_Lt_count km_Pr_20 h.2.ob rfl rfl d_Pr_count_4 rfl rfl (Nat.le_of_ble_eq_true rfl) ⟨(Nat.le_of_ble_eq_true rfl), (Nat.le_of_ble_eq_true rfl)⟩ ⟨(Nat.le_of_ble_eq_true rfl), (Nat.le_of_ble_eq_true rfl)⟩ (fun v g' hp => ?_)
  rw [hp.1, hp.2]
  show gh_W l G _ X g _ _ [some (.ref pa)] 7 [.int (nI o.1.length)]
  exact gh_iret hK hE d_Pr_count_7 (Nat.le_of_ble_eq_true rfl) (Nat.le_of_ble_eq_true rfl) ⟨rfl, rfl⟩
set_option maxRecDepth 20000 in
set_option maxHeartbeats 4000000 in
theorem c_Pr_at (l : Launch) (G : GG) {g : GH} {pa pl pb it : Nat} {o : List Nat × Nat} {j : Nat} (h : Pr G g pa pl pb o it) (hj : j < 2 ^ 31) : gMet l G y_Pr_at b_Pr_at 2 (some .char) (rmk 1 0 0 21) [.ref pa, .int (nI j)] g (fun v g' => v = some (.int (nI (o.1.getD j 0))) ∧ g' = g) := by
  refine gMet.of [some (.ref pa), some (.int (nI j))] (by decide +kernel) rfl (Nat.le_of_ble_eq_true rfl) rfl (fun X hK hI hE => ?_)
  refine gh_aload_n hK d_Pr_at_0 rfl ?_
  refine gh_get hK d_Pr_at_1 in_Pr rfl h.1 0 (by decide) kf_Pr_14 rfl rfl ?_
  refine gh_iload_n hK d_Pr_at_4 rfl ?_
  refine gh_callV (rest := []) [.int (nI j)] hK (c_Lt_at l G h.2 hj) Y_Lt_at V_Lt_at km_Pr_24 h.2.ob rfl rfl d_Pr_at_5 rfl rfl (Nat.le_of_ble_eq_true rfl) ⟨(Nat.le_of_ble_eq_true rfl), (Nat.le_of_ble_eq_true rfl)⟩ ⟨(Nat.le_of_ble_eq_true rfl), (Nat.le_of_ble_eq_true rfl)⟩ (fun v g' hp => ?_)
  rw [hp.1, hp.2]
  show gh_W l G _ X g _ _ [some (.ref pa), some (.int (nI j))] 8 [.int (nI (o.1.getD j 0))]
  exact gh_zret (pk_charN (h.2.getD j)).1 hK hE d_Pr_at_8 (Nat.le_of_ble_eq_true rfl) (Nat.le_of_ble_eq_true rfl) ⟨rfl, rfl⟩
set_option maxRecDepth 20000 in
set_option maxHeartbeats 4000000 in
theorem c_Pr_lostCount (l : Launch) (G : GG) {g : GH} {pa pl pb it : Nat} {o : List Nat × Nat} (h : Pr G g pa pl pb o it) : gMet l G y_Pr_lostCount b_Pr_lostCount 1 (some .int) (rmk 0 0 0 0) [.ref pa] g (fun v g' => v = some (.int (nI o.2)) ∧ g' = g) := by
  refine gMet.of [some (.ref pa)] (by decide +kernel) rfl (Nat.le_of_ble_eq_true rfl) rfl (fun X hK hI hE => ?_)
  refine gh_aload_n hK d_Pr_lostCount_0 rfl ?_
  refine gh_get hK d_Pr_lostCount_1 in_Pr rfl h.1 1 (by decide) kf_Pr_28 rfl rfl ?_
  exact gh_iret hK hE d_Pr_lostCount_4 (Nat.le_of_ble_eq_true rfl) (Nat.le_of_ble_eq_true rfl) ⟨rfl, rfl⟩
set_option maxRecDepth 20000 in
set_option maxHeartbeats 4000000 in
theorem c_Pr_clear (l : Launch) (G : GG) {g : GH} {pa pl pb it : Nat} {o : List Nat × Nat} (h : Pr G g pa pl pb o it) : gMet l G y_Pr_clear b_Pr_clear 1 none (rmk 1 0 0 20) [.ref pa] g (fun v g' => v = none ∧ Pr G g' pa pl pb ([], 0) it ∧ gh_N [pa, pl, pb] g g') := by
  refine gMet.of [some (.ref pa)] (by decide +kernel) rfl (Nat.le_of_ble_eq_true rfl) rfl (fun X hK hI hE => ?_)
  obtain ⟨n1, n2, n3⟩ := h.ne
  refine gh_aload_n hK d_Pr_clear_0 rfl ?_
  refine gh_get hK d_Pr_clear_1 in_Pr rfl h.1 0 (by decide) kf_Pr_14 rfl rfl ?_
  refine gh_callV (rest := []) [] hK (c_Lt_clear l G h.2) Y_Lt_clear V_Lt_clear km_Pr_32 h.2.ob rfl rfl d_Pr_clear_4 rfl rfl (Nat.le_of_ble_eq_true rfl) ⟨(Nat.le_of_ble_eq_true rfl), (Nat.le_of_ble_eq_true rfl)⟩ ⟨(Nat.le_of_ble_eq_true rfl), (Nat.le_of_ble_eq_true rfl)⟩ (fun v g1 hp => ?_)
  obtain ⟨rfl, hp1, hpN⟩ := hp
  have h1 : g1 pa = some (4, .inr (5, [.ref pl, .int (nI o.2), .int (nI it)])) := by rw [hpN pa (by simpa using n1) (by rw [h.1]; exact fun z => by cases z)]; exact h.1
  show gh_W l G _ X g1 _ _ [some (.ref pa)] 7 []
  refine gh_aload_n hK d_Pr_clear_7 rfl ?_
  refine gh_iconst (v := nI 0) hK d_Pr_clear_8 (by decide) ?_
  refine gh_put hK d_Pr_clear_9 in_Pr t_Pr ty_Pr nm_Pr rfl h1 1 (by decide) kf_Pr_28 rfl rfl rfl rfl (Nat.le_of_ble_eq_true rfl) rfl ?_
  exact gh_vret hK hE d_Pr_clear_12 (Nat.le_of_ble_eq_true rfl) (Nat.le_of_ble_eq_true rfl) ⟨rfl, ⟨by rw [gh_us]; rfl, hp1.N (gh_N.up (S := [pa]) (by simp)) (by simpa using n1.symm) (by simpa using n2.symm)⟩, (hpN.wd (by simp)).tr (gh_N.up (by simp))⟩
set_option maxRecDepth 20000 in
set_option maxHeartbeats 4000000 in
theorem c_Pr_print (l : Launch) (G : GG) {g : GH} {pa pl pb it : Nat} {o : List Nat × Nat} {c : Nat} (h : Pr G g pa pl pb o it) (hc : c < 65536) : gMet l G y_Pr_print b_Pr_print 2 none (rmk 1 0 0 21) [.ref pa, .int (nI c)] g (fun v g' => v = none ∧ Pr G g' pa pl pb (prt o c) it ∧ gh_N [pa, pl, pb] g g') := by
  refine gMet.of [some (.ref pa), some (.int (nI c))] (by decide +kernel) rfl (Nat.le_of_ble_eq_true rfl) rfl (fun X hK hI hE => ?_)
  obtain ⟨n1, n2, n3⟩ := h.ne
  refine gh_aload_n hK d_Pr_print_0 rfl ?_
  refine gh_get hK d_Pr_print_1 in_Pr rfl h.1 0 (by decide) kf_Pr_14 rfl rfl ?_
  refine gh_iload_n hK d_Pr_print_4 rfl ?_
  by_cases hlt : o.1.length < 6000
  · refine gh_callV (rest := []) [.int (nI c)] hK (c_Lt_append l G h.2 hc) Y_Lt_append V_Lt_append km_Pr_57 h.2.ob rfl rfl d_Pr_print_5 rfl rfl (Nat.le_of_ble_eq_true rfl) ⟨(Nat.le_of_ble_eq_true rfl), (Nat.le_of_ble_eq_true rfl)⟩ ⟨(Nat.le_of_ble_eq_true rfl), (Nat.le_of_ble_eq_true rfl)⟩ (fun v g1 hp => ?_)
    obtain ⟨hp1, -, hpN⟩ := hp
    obtain ⟨rfl, hp2⟩ := hp1 hlt
    show gh_W l G _ X g1 _ _ [some (.ref pa), some (.int (nI c))] 8 [.int (nI 1)]
    refine gh_if_neN hK d_Pr_print_8 (tgt := 21) (by decide) (by decide) (fun z => ?_) (fun z => absurd z (by decide))
    refine gh_vret hK hE d_Pr_print_21 (Nat.le_of_ble_eq_true rfl) (Nat.le_of_ble_eq_true rfl) ⟨rfl, ?_, hpN.wd (by simp)⟩
    rw [show prt o c = (o.1 ++ [c], o.2) from if_pos hlt]
    exact ⟨by rw [hpN pa (by simp [n1, n2]) (by rw [h.1]; exact fun z => by cases z)]; exact h.1, hp2⟩
  · refine gh_callV (rest := []) [.int (nI c)] hK (c_Lt_append l G h.2 hc) Y_Lt_append V_Lt_append km_Pr_57 h.2.ob rfl rfl d_Pr_print_5 rfl rfl (Nat.le_of_ble_eq_true rfl) ⟨(Nat.le_of_ble_eq_true rfl), (Nat.le_of_ble_eq_true rfl)⟩ ⟨(Nat.le_of_ble_eq_true rfl), (Nat.le_of_ble_eq_true rfl)⟩ (fun v g1 hp => ?_)
    obtain ⟨-, hp1, -⟩ := hp
    rw [(hp1 hlt).1, (hp1 hlt).2]
    show gh_W l G _ X g _ _ [some (.ref pa), some (.int (nI c))] 8 [.int (nI 0)]
    refine gh_if_neN hK d_Pr_print_8 (tgt := 21) (by decide) (by decide) (fun z => absurd z (by decide)) (fun z => ?_)
    refine gh_aload_n hK d_Pr_print_11 rfl ?_
    refine gh_dup hK d_Pr_print_12 rfl ?_
    refine gh_get hK d_Pr_print_13 in_Pr rfl h.1 1 (by decide) kf_Pr_28 rfl rfl ?_
    refine gh_iconst (v := nI 1) hK d_Pr_print_16 (by decide) ?_
    refine gh_addN hK d_Pr_print_17 ?_
    refine gh_put hK d_Pr_print_18 in_Pr t_Pr ty_Pr nm_Pr rfl h.1 1 (by decide) kf_Pr_28 rfl rfl rfl rfl (Nat.le_of_ble_eq_true rfl) rfl ?_
    refine gh_vret hK hE d_Pr_print_21 (Nat.le_of_ble_eq_true rfl) (Nat.le_of_ble_eq_true rfl) ⟨rfl, ?_, gh_N.up (by simp)⟩
    rw [show prt o c = (o.1, o.2 + 1) from if_neg hlt]
    exact ⟨gh_us, h.2.N (gh_N.up (S := [pa]) (by simp)) (by simpa using n1.symm) (by simpa using n2.symm)⟩
set_option maxRecDepth 20000 in
set_option maxHeartbeats 4000000 in
theorem c_Pr_printText (l : Launch) (G : GG) {g : GH} {pa pl pb it : Nat} {o : List Nat × Nat} {i : Nat} (h : Pr G g pa pl pb o it) (hi : i < st_N) : gMet l G y_Pr_printText b_Pr_printText 3 none (rmk 4 0 0 85) [.ref pa, .ref (G.2.2.1 i)] g (fun v g' => v = none ∧ Pr G g' pa pl pb (prs o (st_txt.getD i [])) it ∧ gh_N [pa, pl, pb] g g') := by
  refine gMet.of [some (.ref pa), some (.ref (G.2.2.1 i)), none] (by decide +kernel) rfl (Nat.le_of_ble_eq_true rfl) rfl (fun X hK hI hE => ?_)
  obtain ⟨e1, e2, e3⟩ := st_all i hi
  have loop : ∀ (m j : Nat) (g1 : GH), j + m = (st_txt.getD i []).length → Pr G g1 pa pl pb (prs o ((st_txt.getD i []).take j)) it → gh_N [pa, pl, pb] g g1 → gh_W l G (rmk 4 0 0 85) X g1 0 0 [some (.ref pa), some (.ref (G.2.2.1 i)), some (.int (nI j))] 2 [] := by
    intro m
    induction m with
    | zero =>
      intro j g1 hj h1 hN
      rw [List.take_of_length_le (by omega)] at h1
      refine gh_iload_n hK d_Pr_printText_2 rfl ?_
      refine gh_aload_n hK d_Pr_printText_3 rfl ?_
      refine gh_callVs (i := i) (rest := [.int (nI j)]) [] hK (c_Str_length l G (g := g1) hi) Y_Str_length V_Str_length km_Pr_35 hi rfl rfl d_Pr_printText_4 rfl rfl (Nat.le_of_ble_eq_true rfl) ⟨(Nat.le_of_ble_eq_true rfl), (Nat.le_of_ble_eq_true rfl)⟩ ⟨(Nat.le_of_ble_eq_true rfl), (Nat.le_of_ble_eq_true rfl)⟩ (fun v g' hp => ?_)
      rw [hp.1, hp.2]
      show gh_W l G _ X g1 0 0 [some (.ref pa), some (.ref (G.2.2.1 i)), some (.int (nI j))] 7 [.int (nI ((st_txt.getD i []).length)), .int (nI j)]
      refine gh_icmp_geN hK d_Pr_printText_7 (tgt := 25) (by decide) (by omega) (by omega) (fun z => ?_) (fun z => absurd z (by omega))
      exact gh_vret hK hE d_Pr_printText_25 (Nat.le_of_ble_eq_true rfl) (Nat.le_of_ble_eq_true rfl) ⟨rfl, h1, hN⟩
    | succ m ih =>
      intro j g1 hj h1 hN
      refine gh_iload_n hK d_Pr_printText_2 rfl ?_
      refine gh_aload_n hK d_Pr_printText_3 rfl ?_
      refine gh_callVs (i := i) (rest := [.int (nI j)]) [] hK (c_Str_length l G (g := g1) hi) Y_Str_length V_Str_length km_Pr_35 hi rfl rfl d_Pr_printText_4 rfl rfl (Nat.le_of_ble_eq_true rfl) ⟨(Nat.le_of_ble_eq_true rfl), (Nat.le_of_ble_eq_true rfl)⟩ ⟨(Nat.le_of_ble_eq_true rfl), (Nat.le_of_ble_eq_true rfl)⟩ (fun v g' hp => ?_)
      rw [hp.1, hp.2]
      show gh_W l G _ X g1 0 0 [some (.ref pa), some (.ref (G.2.2.1 i)), some (.int (nI j))] 7 [.int (nI ((st_txt.getD i []).length)), .int (nI j)]
      refine gh_icmp_geN hK d_Pr_printText_7 (tgt := 25) (by decide) (by omega) (by omega) (fun z => absurd z (by omega)) (fun z => ?_)
      refine gh_aload_n hK d_Pr_printText_10 rfl ?_
      refine gh_aload_n hK d_Pr_printText_11 rfl ?_
      refine gh_iload_n hK d_Pr_printText_12 rfl ?_
      refine gh_callVs (i := i) (rest := [.ref pa]) [.int (nI j)] hK (c_Str_charAt l G (g := g1) hi (j := j) (by omega)) Y_Str_charAt V_Str_charAt km_Pr_40 hi rfl rfl d_Pr_printText_13 rfl rfl (Nat.le_of_ble_eq_true rfl) ⟨(Nat.le_of_ble_eq_true rfl), (Nat.le_of_ble_eq_true rfl)⟩ ⟨(Nat.le_of_ble_eq_true rfl), (Nat.le_of_ble_eq_true rfl)⟩ (fun v g' hp => ?_)
      rw [hp.1, hp.2]
      show gh_W l G _ X g1 0 0 [some (.ref pa), some (.ref (G.2.2.1 i)), some (.int (nI j))] 16 [.int (nI ((st_txt.getD i []).getD j 0)), .ref pa]
      have hch := (e3 j (by omega)).2
      refine gh_callV (rest := []) [.int (nI ((st_txt.getD i []).getD j 0))] hK (c_Pr_print l G h1 (c := (st_txt.getD i []).getD j 0) (by omega)) Y_Pr_print V_Pr_print km_Pr_43 h1.1 rfl rfl d_Pr_printText_16 rfl rfl (Nat.le_of_ble_eq_true rfl) ⟨(Nat.le_of_ble_eq_true rfl), (Nat.le_of_ble_eq_true rfl)⟩ ⟨(Nat.le_of_ble_eq_true rfl), (Nat.le_of_ble_eq_true rfl)⟩ (fun v g2 hp => ?_)
      obtain ⟨rfl, hp1, hpN⟩ := hp
      show gh_W l G _ X g2 _ _ [some (.ref pa), some (.ref (G.2.2.1 i)), some (.int (nI j))] 19 []
      refine gh_incN (lv' := [some (.ref pa), some (.ref (G.2.2.1 i)), some (.int (nI (j + 1)))]) hK d_Pr_printText_19 rfl rfl ?_
      refine gh_goto (tgt := 2) hK d_Pr_printText_22 (by decide) ?_
      refine ih (j + 1) g2 (by omega) ?_ (hN.tr hpN)
      rw [take_succD (by omega), prs_app, prs_one]
      exact hp1
  refine gh_iconst (v := nI 0) hK d_Pr_printText_0 (by decide) ?_
  refine gh_istore_n (lv' := [some (.ref pa), some (.ref (G.2.2.1 i)), some (.int (nI 0))]) hK d_Pr_printText_1 (Nat.le_of_ble_eq_true rfl) rfl ?_
  exact loop _ 0 g (Nat.zero_add _) (by rw [List.take_zero]; exact h) gh_N.rf
set_option maxRecDepth 20000 in
set_option maxHeartbeats 4000000 in
theorem c_Pr_printLetters (l : Launch) (G : GG) {g : GH} {pa pl pb it : Nat} {o : List Nat × Nat} {ra rt rb ru rcap fr len : Nat} {ys : List Nat} (h : Pr G g pa pl pb o it) (hr : Lt G g ra rt rb ru rcap ys) (hn1 : ra ∉ [pa, pl, pb]) (hn2 : rb ∉ [pa, pl, pb]) (hf : fr + len ≤ ys.length) : gMet l G y_Pr_printLetters b_Pr_printLetters 5 none (rmk 2 0 0 42) [.ref pa, .ref ra, .int (nI fr), .int (nI len)] g (fun v g' => v = none ∧ Pr G g' pa pl pb (prs o ((ys.drop fr).take len)) it ∧ gh_N [pa, pl, pb] g g') := by
  refine gMet.of [some (.ref pa), some (.ref ra), some (.int (nI fr)), some (.int (nI len)), none] (by decide +kernel) rfl (Nat.le_of_ble_eq_true rfl) rfl (fun X hK hI hE => ?_)
  obtain ⟨hsl, hsl2⟩ := hr.len
  have loop : ∀ (m i : Nat) (g1 : GH), i + m = len → Pr G g1 pa pl pb (prs o ((ys.drop fr).take i)) it → gh_N [pa, pl, pb] g g1 → gh_W l G (rmk 2 0 0 42) X g1 0 0 [some (.ref pa), some (.ref ra), some (.int (nI fr)), some (.int (nI len)), some (.int (nI i))] 3 [] := by
    intro m
    induction m with
    | zero =>
      intro i g1 hi h1 hN
      obtain rfl : i = len := by omega
      refine gh_iload hK d_Pr_printLetters_3 rfl ?_
      refine gh_iload_n hK d_Pr_printLetters_5 rfl ?_
      refine gh_icmp_geN hK d_Pr_printLetters_6 (tgt := 27) (by decide) (by omega) (by omega) (fun z => ?_) (fun z => absurd z (by omega))
      exact gh_vret hK hE d_Pr_printLetters_27 (Nat.le_of_ble_eq_true rfl) (Nat.le_of_ble_eq_true rfl) ⟨rfl, h1, hN⟩
    | succ m ih =>
      intro i g1 hi h1 hN
      have hr1 := hr.N hN hn1 hn2
      refine gh_iload hK d_Pr_printLetters_3 rfl ?_
      refine gh_iload_n hK d_Pr_printLetters_5 rfl ?_
      refine gh_icmp_geN hK d_Pr_printLetters_6 (tgt := 27) (by decide) (by omega) (by omega) (fun z => absurd z (by omega)) (fun z => ?_)
      refine gh_aload_n hK d_Pr_printLetters_9 rfl ?_
      refine gh_aload_n hK d_Pr_printLetters_10 rfl ?_
      refine gh_iload_n hK d_Pr_printLetters_11 rfl ?_
      refine gh_iload hK d_Pr_printLetters_12 rfl ?_
      refine gh_addN hK d_Pr_printLetters_14 ?_
      refine gh_callV (rest := [.ref pa]) [.int (nI (fr + i))] hK (c_Lt_at l G hr1 (j := fr + i) (by omega)) Y_Lt_at V_Lt_at km_Pr_24 hr1.ob rfl rfl d_Pr_printLetters_15 rfl rfl (Nat.le_of_ble_eq_true rfl) ⟨(Nat.le_of_ble_eq_true rfl), (Nat.le_of_ble_eq_true rfl)⟩ ⟨(Nat.le_of_ble_eq_true rfl), (Nat.le_of_ble_eq_true rfl)⟩ (fun v g' hp => ?_)
      rw [hp.1, hp.2]
      show gh_W l G _ X g1 _ _ [some (.ref pa), some (.ref ra), some (.int (nI fr)), some (.int (nI len)), some (.int (nI i))] 18 [.int (nI (ys.getD (fr + i) 0)), .ref pa]
      refine gh_callV (rest := []) [.int (nI (ys.getD (fr + i) 0))] hK (c_Pr_print l G h1 (hr1.getD (fr + i))) Y_Pr_print V_Pr_print km_Pr_43 h1.1 rfl rfl d_Pr_printLetters_18 rfl rfl (Nat.le_of_ble_eq_true rfl) ⟨(Nat.le_of_ble_eq_true rfl), (Nat.le_of_ble_eq_true rfl)⟩ ⟨(Nat.le_of_ble_eq_true rfl), (Nat.le_of_ble_eq_true rfl)⟩ (fun v g2 hp => ?_)
      obtain ⟨rfl, hp1, hpN⟩ := hp
      show gh_W l G _ X g2 _ _ [some (.ref pa), some (.ref ra), some (.int (nI fr)), some (.int (nI len)), some (.int (nI i))] 21 []
      refine gh_incN (lv' := [some (.ref pa), some (.ref ra), some (.int (nI fr)), some (.int (nI len)), some (.int (nI (i + 1)))]) hK d_Pr_printLetters_21 rfl rfl ?_
      refine gh_goto (tgt := 3) hK d_Pr_printLetters_24 (by decide) ?_
      refine ih (i + 1) g2 (by omega) ?_ (hN.tr hpN)
      rw [slice_succ (by omega), prs_app, prs_one]
      exact hp1
  refine gh_iconst (v := nI 0) hK d_Pr_printLetters_0 (by decide) ?_
  refine gh_istore (lv' := [some (.ref pa), some (.ref ra), some (.int (nI fr)), some (.int (nI len)), some (.int (nI 0))]) hK d_Pr_printLetters_1 (Nat.le_of_ble_eq_true rfl) rfl ?_
  exact loop len 0 g (by omega) (by rw [List.take_zero]; exact h) gh_N.rf
set_option maxRecDepth 20000 in
set_option maxHeartbeats 4000000 in
theorem c_Pr_printNumber (l : Launch) (G : GG) {g : GH} {pa pl pb it : Nat} {o : List Nat × Nat} {x : Nat} (h : Pr G g pa pl pb o it) (hx : x < 1000000) : gMet l G y_Pr_printNumber b_Pr_printNumber 4 none (rmk 2 0 0 42) [.ref pa, .int (nI x)] g (fun v g' => v = none ∧ Pr G g' pa pl pb (prs o (decL x)) it ∧ gh_N [pa, pl, pb] g g') := by
  refine gMet.of [some (.ref pa), some (.int (nI x)), none, none] (by decide +kernel) rfl (Nat.le_of_ble_eq_true rfl) rfl (fun X hK hI hE => ?_)
  have loop2 : ∀ (k : Nat) (g1 : GH) (o1 : List Nat × Nat) (o2 : Option Value), k ≤ 6 → Pr G g1 pa pl pb o1 it → prs o1 (dgs k x) = prs o (decL x) → gh_N [pa, pl, pb] g g1 → gh_W l G (rmk 2 0 0 42) X g1 0 0 [some (.ref pa), some (.int (nI x)), o2, some (.int (nI (10 ^ k)))] 26 [] := by
    intro k
    induction k with
    | zero =>
      intro g1 o1 o2 hk h1 he hN
      refine gh_iload_n hK d_Pr_printNumber_26 rfl ?_
      refine gh_if_leN hK d_Pr_printNumber_27 (tgt := 52) (by decide) (by omega) (fun z => absurd z (by omega)) (fun z => ?_)
      refine gh_aload_n hK d_Pr_printNumber_30 rfl ?_
      refine gh_bipush (v := nI 48) hK d_Pr_printNumber_31 (by decide) ?_
      refine gh_iload_n hK d_Pr_printNumber_33 rfl ?_
      refine gh_iload_n hK d_Pr_printNumber_34 rfl ?_
      refine gh_divN hK d_Pr_printNumber_35 (by omega) (by omega) (by omega) ?_
      refine gh_bipush (v := nI 10) hK d_Pr_printNumber_36 (by decide) ?_
      refine gh_remN hK d_Pr_printNumber_38 (by omega) (by omega) (by omega) ?_
      refine gh_addN hK d_Pr_printNumber_39 ?_
      refine gh_i2c (v := nI (48 + x / 10 ^ 0 % 10)) hK d_Pr_printNumber_40 (by rw [pk_char, pk_tn (by omega)]; congr 1; omega) ?_
      refine gh_callV (rest := []) [.int (nI (48 + x / 10 ^ 0 % 10))] hK (c_Pr_print l G h1 (by omega)) Y_Pr_print V_Pr_print km_Pr_43 h1.1 rfl rfl d_Pr_printNumber_41 rfl rfl (Nat.le_of_ble_eq_true rfl) ⟨(Nat.le_of_ble_eq_true rfl), (Nat.le_of_ble_eq_true rfl)⟩ ⟨(Nat.le_of_ble_eq_true rfl), (Nat.le_of_ble_eq_true rfl)⟩ (fun v g2 hp => ?_)
      obtain ⟨rfl, hp1, hpN⟩ := hp
      show gh_W l G _ X g2 _ _ [some (.ref pa), some (.int (nI x)), o2, some (.int (nI (10 ^ 0)))] 44 []
      refine gh_iload_n hK d_Pr_printNumber_44 rfl ?_
      refine gh_bipush (v := nI 10) hK d_Pr_printNumber_45 (by decide) ?_
      refine gh_divN hK d_Pr_printNumber_47 (by omega) (by omega) (by omega) ?_
      refine gh_istore_n (lv' := [some (.ref pa), some (.int (nI x)), o2, some (.int (nI ((10 ^ 0) / 10)))]) hK d_Pr_printNumber_48 (Nat.le_of_ble_eq_true rfl) rfl ?_
      rw [show (10 : Nat) ^ 0 / 10 = 0 from rfl]
      refine gh_goto (tgt := 26) hK d_Pr_printNumber_49 (by decide) ?_
      refine gh_iload_n hK d_Pr_printNumber_26 rfl ?_
      refine gh_if_leN hK d_Pr_printNumber_27 (tgt := 52) (by decide) (by decide) (fun z => ?_) (fun z => absurd z (by omega))
      refine gh_vret hK hE d_Pr_printNumber_52 (Nat.le_of_ble_eq_true rfl) (Nat.le_of_ble_eq_true rfl) ⟨rfl, ?_, hN.tr hpN⟩
      rw [← he]
      have e0 : x / 10 ^ 0 = x := by rw [Nat.pow_zero, Nat.div_one]
      rw [e0] at hp1
      exact hp1
    | succ k ih =>
      intro g1 o1 o2 hk h1 he hN
      have hk1 := p10_6 hk
      have hk2 := p10_pos (k + 1)
      have hk3 : x / 10 ^ (k + 1) ≤ x := Nat.div_le_self _ _
      refine gh_iload_n hK d_Pr_printNumber_26 rfl ?_
      refine gh_if_leN hK d_Pr_printNumber_27 (tgt := 52) (by decide) (by omega) (fun z => absurd z (by omega)) (fun z => ?_)
      refine gh_aload_n hK d_Pr_printNumber_30 rfl ?_
      refine gh_bipush (v := nI 48) hK d_Pr_printNumber_31 (by decide) ?_
      refine gh_iload_n hK d_Pr_printNumber_33 rfl ?_
      refine gh_iload_n hK d_Pr_printNumber_34 rfl ?_
      refine gh_divN hK d_Pr_printNumber_35 (by omega) (by omega) (by omega) ?_
      refine gh_bipush (v := nI 10) hK d_Pr_printNumber_36 (by decide) ?_
      refine gh_remN hK d_Pr_printNumber_38 (by omega) (by omega) (by omega) ?_
      refine gh_addN hK d_Pr_printNumber_39 ?_
      refine gh_i2c (v := nI (48 + x / 10 ^ (k + 1) % 10)) hK d_Pr_printNumber_40 (by rw [pk_char, pk_tn (by omega)]; congr 1; omega) ?_
      refine gh_callV (rest := []) [.int (nI (48 + x / 10 ^ (k + 1) % 10))] hK (c_Pr_print l G h1 (by omega)) Y_Pr_print V_Pr_print km_Pr_43 h1.1 rfl rfl d_Pr_printNumber_41 rfl rfl (Nat.le_of_ble_eq_true rfl) ⟨(Nat.le_of_ble_eq_true rfl), (Nat.le_of_ble_eq_true rfl)⟩ ⟨(Nat.le_of_ble_eq_true rfl), (Nat.le_of_ble_eq_true rfl)⟩ (fun v g2 hp => ?_)
      obtain ⟨rfl, hp1, hpN⟩ := hp
      show gh_W l G _ X g2 _ _ [some (.ref pa), some (.int (nI x)), o2, some (.int (nI (10 ^ (k + 1))))] 44 []
      refine gh_iload_n hK d_Pr_printNumber_44 rfl ?_
      refine gh_bipush (v := nI 10) hK d_Pr_printNumber_45 (by decide) ?_
      refine gh_divN hK d_Pr_printNumber_47 (by omega) (by omega) (by omega) ?_
      refine gh_istore_n (lv' := [some (.ref pa), some (.int (nI x)), o2, some (.int (nI ((10 ^ (k + 1)) / 10)))]) hK d_Pr_printNumber_48 (Nat.le_of_ble_eq_true rfl) rfl ?_
      rw [p10_div]
      refine gh_goto (tgt := 26) hK d_Pr_printNumber_49 (by decide) ?_
      exact ih g2 _ _ (by omega) hp1 he (hN.tr hpN)
  have loop1 : ∀ (m k : Nat), k + m = 6 → (k = 0 ∨ 10 ^ k ≤ x) → gh_W l G (rmk 2 0 0 42) X g 0 0 [some (.ref pa), some (.int (nI x)), some (.int (nI (10 ^ k))), some (.int (nI (x / 10 ^ (k + 1))))] 7 [] := by
    intro m
    induction m with
    | zero =>
      intro k hk h0
      obtain rfl : k = 6 := by omega
      rcases h0 with h0 | h0
      · omega
      · simp at h0; omega
    | succ m ih =>
      intro k hk h0
      have hk1 := p10_6 (k := k) (by omega)
      have hk2 : x / 10 ^ (k + 1) ≤ x := Nat.div_le_self _ _
      refine gh_iload_n hK d_Pr_printNumber_7 rfl ?_
      refine gh_if_leN hK d_Pr_printNumber_8 (tgt := 24) (by decide) (by omega) (fun z => ?_) (fun z => ?_)
      · refine gh_iload_n hK d_Pr_printNumber_24 rfl ?_
        refine gh_istore_n (lv' := [some (.ref pa), some (.int (nI x)), some (.int (nI (10 ^ k))), some (.int (nI (10 ^ k)))]) hK d_Pr_printNumber_25 (Nat.le_of_ble_eq_true rfl) rfl ?_
        have hkd := nkd_of hx h0 (p10_lt z)
        exact loop2 k g o _ (by omega) h (by rw [hkd]; rfl) gh_N.rf
      · refine gh_iload_n hK d_Pr_printNumber_11 rfl ?_
        refine gh_bipush (v := nI 10) hK d_Pr_printNumber_12 (by decide) ?_
        refine gh_mulN hK d_Pr_printNumber_14 ?_
        rw [← Nat.pow_succ]
        refine gh_istore_n (lv' := [some (.ref pa), some (.int (nI x)), some (.int (nI (10 ^ (k + 1)))), some (.int (nI (x / 10 ^ (k + 1))))]) hK d_Pr_printNumber_15 (Nat.le_of_ble_eq_true rfl) rfl ?_
        refine gh_iload_n hK d_Pr_printNumber_16 rfl ?_
        refine gh_bipush (v := nI 10) hK d_Pr_printNumber_17 (by decide) ?_
        refine gh_divN hK d_Pr_printNumber_19 (by omega) (by omega) (by omega) ?_
        rw [p10_dd]
        refine gh_istore_n (lv' := [some (.ref pa), some (.int (nI x)), some (.int (nI (10 ^ (k + 1)))), some (.int (nI (x / 10 ^ (k + 1 + 1))))]) hK d_Pr_printNumber_20 (Nat.le_of_ble_eq_true rfl) rfl ?_
        refine gh_goto (tgt := 7) hK d_Pr_printNumber_21 (by decide) ?_
        exact ih (k + 1) (by omega) (Or.inr (p10_ge z))
  refine gh_iconst (v := nI 1) hK d_Pr_printNumber_0 (by decide) ?_
  refine gh_istore_n (lv' := [some (.ref pa), some (.int (nI x)), some (.int (nI 1)), none]) hK d_Pr_printNumber_1 (Nat.le_of_ble_eq_true rfl) rfl ?_
  refine gh_iload_n hK d_Pr_printNumber_2 rfl ?_
  refine gh_bipush (v := nI 10) hK d_Pr_printNumber_3 (by decide) ?_
  refine gh_divN hK d_Pr_printNumber_5 (by omega) (by omega) (by omega) ?_
  have e1 : x / 10 = x / 10 ^ (0 + 1) := by rw [Nat.zero_add, Nat.pow_one]
  rw [e1]
  refine gh_istore_n (lv' := [some (.ref pa), some (.int (nI x)), some (.int (nI 1)), some (.int (nI (x / 10 ^ (0 + 1))))]) hK d_Pr_printNumber_6 (Nat.le_of_ble_eq_true rfl) rfl ?_
  exact loop1 6 0 (by omega) (Or.inl rfl)
set_option maxRecDepth 20000 in
set_option maxHeartbeats 4000000 in
theorem c_Pr_startItem (l : Launch) (G : GG) {g : GH} {pa pl pb it : Nat} {o : List Nat × Nat} (h : Pr G g pa pl pb o it) (hit : it < 1000000) : gMet l G y_Pr_startItem b_Pr_startItem 1 none (rmk 2 0 0 42) [.ref pa] g (fun v g' => v = none ∧ Pr G g' pa pl pb (if 0 < it then prt o 32 else o) (it + 1) ∧ gh_N [pa, pl, pb] g g') := by
  refine gMet.of [some (.ref pa)] (by decide +kernel) rfl (Nat.le_of_ble_eq_true rfl) rfl (fun X hK hI hE => ?_)
  obtain ⟨n1, n2, n3⟩ := h.ne
  refine gh_aload_n hK d_Pr_startItem_0 rfl ?_
  refine gh_get hK d_Pr_startItem_1 in_Pr rfl h.1 2 (by decide) kf_Pr_47 rfl rfl ?_
  refine gh_if_leN hK d_Pr_startItem_4 (tgt := 13) (by decide) (by omega) (fun z => ?_) (fun z => ?_)
  · refine gh_aload_n hK d_Pr_startItem_13 rfl ?_
    refine gh_dup hK d_Pr_startItem_14 rfl ?_
    refine gh_get hK d_Pr_startItem_15 in_Pr rfl h.1 2 (by decide) kf_Pr_47 rfl rfl ?_
    refine gh_iconst (v := nI 1) hK d_Pr_startItem_18 (by decide) ?_
    refine gh_addN hK d_Pr_startItem_19 ?_
    refine gh_put hK d_Pr_startItem_20 in_Pr t_Pr ty_Pr nm_Pr rfl h.1 2 (by decide) kf_Pr_47 rfl rfl rfl rfl (Nat.le_of_ble_eq_true rfl) rfl ?_
    refine gh_vret hK hE d_Pr_startItem_23 (Nat.le_of_ble_eq_true rfl) (Nat.le_of_ble_eq_true rfl) ⟨rfl, ?_, gh_N.up (by simp)⟩
    rw [if_neg (by omega)]
    exact ⟨gh_us, h.2.N (gh_N.up (S := [pa]) (by simp)) (by simpa using n1.symm) (by simpa using n2.symm)⟩
  · refine gh_aload_n hK d_Pr_startItem_7 rfl ?_
    refine gh_bipush (v := nI 32) hK d_Pr_startItem_8 (by decide) ?_
    refine gh_callV (rest := []) [.int (nI 32)] hK (c_Pr_print l G h (c := 32) (by decide)) Y_Pr_print V_Pr_print km_Pr_43 h.1 rfl rfl d_Pr_startItem_10 rfl rfl (Nat.le_of_ble_eq_true rfl) ⟨(Nat.le_of_ble_eq_true rfl), (Nat.le_of_ble_eq_true rfl)⟩ ⟨(Nat.le_of_ble_eq_true rfl), (Nat.le_of_ble_eq_true rfl)⟩ (fun v g1 hp => ?_)
    obtain ⟨rfl, hp1, hpN⟩ := hp
    show gh_W l G _ X g1 _ _ [some (.ref pa)] 13 []
    refine gh_aload_n hK d_Pr_startItem_13 rfl ?_
    refine gh_dup hK d_Pr_startItem_14 rfl ?_
    refine gh_get hK d_Pr_startItem_15 in_Pr rfl hp1.1 2 (by decide) kf_Pr_47 rfl rfl ?_
    refine gh_iconst (v := nI 1) hK d_Pr_startItem_18 (by decide) ?_
    refine gh_addN hK d_Pr_startItem_19 ?_
    refine gh_put hK d_Pr_startItem_20 in_Pr t_Pr ty_Pr nm_Pr rfl hp1.1 2 (by decide) kf_Pr_47 rfl rfl rfl rfl (Nat.le_of_ble_eq_true rfl) rfl ?_
    refine gh_vret hK hE d_Pr_startItem_23 (Nat.le_of_ble_eq_true rfl) (Nat.le_of_ble_eq_true rfl) ⟨rfl, ?_, hpN.tr (gh_N.up (by simp))⟩
    rw [if_pos z]
    exact ⟨gh_us, hp1.2.N (gh_N.up (S := [pa]) (by simp)) (by simpa using n1.symm) (by simpa using n2.symm)⟩
set_option maxRecDepth 20000 in
set_option maxHeartbeats 4000000 in
theorem c_Pr_printItem (l : Launch) (G : GG) {g : GH} {pa pl pb it : Nat} {o : List Nat × Nat} {ra rt rb ru rcap fr len : Nat} {ys : List Nat} (h : Pr G g pa pl pb o it) (hit : it < 1000000) (hr : Lt G g ra rt rb ru rcap ys) (hn1 : ra ∉ [pa, pl, pb]) (hn2 : rb ∉ [pa, pl, pb]) (hf : fr + len ≤ ys.length) : gMet l G y_Pr_printItem b_Pr_printItem 4 none (rmk 3 0 0 66) [.ref pa, .ref ra, .int (nI fr), .int (nI len)] g (fun v g' => v = none ∧ Pr G g' pa pl pb (prs (if 0 < it then prt o 32 else o) ((ys.drop fr).take len)) (it + 1) ∧ gh_N [pa, pl, pb] g g') := by
  refine gMet.of [some (.ref pa), some (.ref ra), some (.int (nI fr)), some (.int (nI len))] (by decide +kernel) rfl (Nat.le_of_ble_eq_true rfl) rfl (fun X hK hI hE => ?_)
  refine gh_aload_n hK d_Pr_printItem_0 rfl ?_
  refine gh_callV (rest := []) [] hK (c_Pr_startItem l G h hit) Y_Pr_startItem V_Pr_startItem km_Pr_50 h.1 rfl rfl d_Pr_printItem_1 rfl rfl (Nat.le_of_ble_eq_true rfl) ⟨(Nat.le_of_ble_eq_true rfl), (Nat.le_of_ble_eq_true rfl)⟩ ⟨(Nat.le_of_ble_eq_true rfl), (Nat.le_of_ble_eq_true rfl)⟩ (fun v g1 hp => ?_)
  obtain ⟨rfl, hp1, hpN⟩ := hp
  show gh_W l G _ X g1 _ _ [some (.ref pa), some (.ref ra), some (.int (nI fr)), some (.int (nI len))] 4 []
  refine gh_aload_n hK d_Pr_printItem_4 rfl ?_
  refine gh_aload_n hK d_Pr_printItem_5 rfl ?_
  refine gh_iload_n hK d_Pr_printItem_6 rfl ?_
  refine gh_iload_n hK d_Pr_printItem_7 rfl ?_
  refine gh_callV (rest := []) [.ref ra, .int (nI fr), .int (nI len)] hK (c_Pr_printLetters l G hp1 (hr.N hpN hn1 hn2) hn1 hn2 hf) Y_Pr_printLetters V_Pr_printLetters km_Pr_53 hp1.1 rfl rfl d_Pr_printItem_8 rfl rfl (Nat.le_of_ble_eq_true rfl) ⟨(Nat.le_of_ble_eq_true rfl), (Nat.le_of_ble_eq_true rfl)⟩ ⟨(Nat.le_of_ble_eq_true rfl), (Nat.le_of_ble_eq_true rfl)⟩ (fun v g2 hp => ?_)
  obtain ⟨rfl, hp2, hpN2⟩ := hp
  show gh_W l G _ X g2 _ _ [some (.ref pa), some (.ref ra), some (.int (nI fr)), some (.int (nI len))] 11 []
  exact gh_vret hK hE d_Pr_printItem_11 (Nat.le_of_ble_eq_true rfl) (Nat.le_of_ble_eq_true rfl) ⟨rfl, hp2, hpN.tr hpN2⟩
set_option maxRecDepth 20000 in
set_option maxHeartbeats 4000000 in
theorem c_Pr_endItems (l : Launch) (G : GG) {g : GH} {pa pl pb it : Nat} {o : List Nat × Nat} (h : Pr G g pa pl pb o it) (hit : it < 1000000) : gMet l G y_Pr_endItems b_Pr_endItems 1 none (rmk 2 0 0 42) [.ref pa] g (fun v g' => v = none ∧ Pr G g' pa pl pb (if it = 0 then prt o 45 else o) it ∧ gh_N [pa, pl, pb] g g') := by
  refine gMet.of [some (.ref pa)] (by decide +kernel) rfl (Nat.le_of_ble_eq_true rfl) rfl (fun X hK hI hE => ?_)
  refine gh_aload_n hK d_Pr_endItems_0 rfl ?_
  refine gh_get hK d_Pr_endItems_1 in_Pr rfl h.1 2 (by decide) kf_Pr_47 rfl rfl ?_
  refine gh_if_neN hK d_Pr_endItems_4 (tgt := 13) (by decide) (by omega) (fun z => ?_) (fun z => ?_)
  · exact gh_vret hK hE d_Pr_endItems_13 (Nat.le_of_ble_eq_true rfl) (Nat.le_of_ble_eq_true rfl) ⟨rfl, by rw [if_neg (by omega)]; exact h, gh_N.rf⟩
  · refine gh_aload_n hK d_Pr_endItems_7 rfl ?_
    refine gh_bipush (v := nI 45) hK d_Pr_endItems_8 (by decide) ?_
    refine gh_callV (rest := []) [.int (nI 45)] hK (c_Pr_print l G h (c := 45) (by decide)) Y_Pr_print V_Pr_print km_Pr_43 h.1 rfl rfl d_Pr_endItems_10 rfl rfl (Nat.le_of_ble_eq_true rfl) ⟨(Nat.le_of_ble_eq_true rfl), (Nat.le_of_ble_eq_true rfl)⟩ ⟨(Nat.le_of_ble_eq_true rfl), (Nat.le_of_ble_eq_true rfl)⟩ (fun v g1 hp => ?_)
    obtain ⟨rfl, hp1, hpN⟩ := hp
    show gh_W l G _ X g1 _ _ [some (.ref pa)] 13 []
    exact gh_vret hK hE d_Pr_endItems_13 (Nat.le_of_ble_eq_true rfl) (Nat.le_of_ble_eq_true rfl) ⟨rfl, by rw [if_pos z]; exact hp1, hpN⟩
set_option maxRecDepth 20000 in
set_option maxHeartbeats 4000000 in
theorem c_Pr_endLine (l : Launch) (G : GG) {g : GH} {pa pl pb it : Nat} {o : List Nat × Nat} (h : Pr G g pa pl pb o it) : gMet l G y_Pr_endLine b_Pr_endLine 1 none (rmk 2 0 0 42) [.ref pa] g (fun v g' => v = none ∧ Pr G g' pa pl pb (prt o 10) 0 ∧ gh_N [pa, pl, pb] g g') := by
  refine gMet.of [some (.ref pa)] (by decide +kernel) rfl (Nat.le_of_ble_eq_true rfl) rfl (fun X hK hI hE => ?_)
  obtain ⟨n1, n2, n3⟩ := h.ne
  refine gh_aload_n hK d_Pr_endLine_0 rfl ?_
  refine gh_bipush (v := nI 10) hK d_Pr_endLine_1 (by decide) ?_
  refine gh_callV (rest := []) [.int (nI 10)] hK (c_Pr_print l G h (c := 10) (by decide)) Y_Pr_print V_Pr_print km_Pr_43 h.1 rfl rfl d_Pr_endLine_3 rfl rfl (Nat.le_of_ble_eq_true rfl) ⟨(Nat.le_of_ble_eq_true rfl), (Nat.le_of_ble_eq_true rfl)⟩ ⟨(Nat.le_of_ble_eq_true rfl), (Nat.le_of_ble_eq_true rfl)⟩ (fun v g1 hp => ?_)
  obtain ⟨rfl, hp1, hpN⟩ := hp
  show gh_W l G _ X g1 _ _ [some (.ref pa)] 6 []
  refine gh_aload_n hK d_Pr_endLine_6 rfl ?_
  refine gh_iconst (v := nI 0) hK d_Pr_endLine_7 (by decide) ?_
  refine gh_put hK d_Pr_endLine_8 in_Pr t_Pr ty_Pr nm_Pr rfl hp1.1 2 (by decide) kf_Pr_47 rfl rfl rfl rfl (Nat.le_of_ble_eq_true rfl) rfl ?_
  exact gh_vret hK hE d_Pr_endLine_11 (Nat.le_of_ble_eq_true rfl) (Nat.le_of_ble_eq_true rfl) ⟨rfl, ⟨gh_us, hp1.2.N (gh_N.up (S := [pa]) (by simp)) (by simpa using n1.symm) (by simpa using n2.symm)⟩, hpN.tr (gh_N.up (by simp))⟩
end
section
abbrev b_Ln_init : ByteArray := prog_5_method_1_code
def y_Ln_init : MethodName := ⟨"SpellDesk$Line", "<init>", "(LSpellDesk$Letters;)V"⟩
set_option maxRecDepth 20000 in
theorem Y_Ln_init : gh_Y y_Ln_init b_Ln_init 2 none 1 := ⟨gt_in (i := 61) rfl rfl, gt_in (i := 4) (by decide +kernel) rfl, by decide +kernel, by decide +kernel, by decide +kernel⟩
theorem V_Ln_init : Cond.instanceMethod y_Ln_init ∈ gTbl := (gt_in (i := 60) (by decide +kernel) rfl)
theorem d_Ln_init_0 : decode b_Ln_init 0 = .ok (.aload_n 0, 1) := by decide +kernel
theorem d_Ln_init_1 : decode b_Ln_init 1 = .ok (.invokespecial 3, 3) := by decide +kernel
theorem d_Ln_init_4 : decode b_Ln_init 4 = .ok (.aload_n 0, 1) := by decide +kernel
theorem d_Ln_init_5 : decode b_Ln_init 5 = .ok (.aload_n 1, 1) := by decide +kernel
theorem d_Ln_init_6 : decode b_Ln_init 6 = .ok (.putfield 9, 3) := by decide +kernel
theorem d_Ln_init_9 : decode b_Ln_init 9 = .ok (.return_, 1) := by decide +kernel
abbrev b_Ln_open : ByteArray := prog_5_method_2_code
def y_Ln_open : MethodName := ⟨"SpellDesk$Line", "open", "(II)V"⟩
set_option maxRecDepth 20000 in
theorem Y_Ln_open : gh_Y y_Ln_open b_Ln_open 3 none 2 := ⟨gt_in (i := 287) rfl rfl, gt_in (i := 4) (by decide +kernel) rfl, by decide +kernel, by decide +kernel, by decide +kernel⟩
theorem V_Ln_open : Cond.instanceMethod y_Ln_open ∈ gTbl ∧ Cond.selects y_Ln_open.cls y_Ln_open y_Ln_open ∈ gTbl := ⟨(gt_in (i := 285) (by decide +kernel) rfl), (gt_in (i := 286) (by decide +kernel) rfl)⟩
theorem d_Ln_open_0 : decode b_Ln_open 0 = .ok (.aload_n 0, 1) := by decide +kernel
theorem d_Ln_open_1 : decode b_Ln_open 1 = .ok (.iload_n 1, 1) := by decide +kernel
theorem d_Ln_open_2 : decode b_Ln_open 2 = .ok (.putfield 15, 3) := by decide +kernel
theorem d_Ln_open_5 : decode b_Ln_open 5 = .ok (.aload_n 0, 1) := by decide +kernel
theorem d_Ln_open_6 : decode b_Ln_open 6 = .ok (.iload_n 2, 1) := by decide +kernel
theorem d_Ln_open_7 : decode b_Ln_open 7 = .ok (.putfield 19, 3) := by decide +kernel
theorem d_Ln_open_10 : decode b_Ln_open 10 = .ok (.aload_n 0, 1) := by decide +kernel
theorem d_Ln_open_11 : decode b_Ln_open 11 = .ok (.iload_n 1, 1) := by decide +kernel
theorem d_Ln_open_12 : decode b_Ln_open 12 = .ok (.putfield 22, 3) := by decide +kernel
theorem d_Ln_open_15 : decode b_Ln_open 15 = .ok (.aload_n 0, 1) := by decide +kernel
theorem d_Ln_open_16 : decode b_Ln_open 16 = .ok (.iload_n 1, 1) := by decide +kernel
theorem d_Ln_open_17 : decode b_Ln_open 17 = .ok (.putfield 25, 3) := by decide +kernel
theorem d_Ln_open_20 : decode b_Ln_open 20 = .ok (.return_, 1) := by decide +kernel
abbrev b_Ln_next : ByteArray := prog_5_method_3_code
def y_Ln_next : MethodName := ⟨"SpellDesk$Line", "next", "()Z"⟩
set_option maxRecDepth 20000 in
theorem Y_Ln_next : gh_Y y_Ln_next b_Ln_next 1 (some .boolean) 0 := ⟨gt_in (i := 291) rfl rfl, gt_in (i := 4) (by decide +kernel) rfl, by decide +kernel, by decide +kernel, by decide +kernel⟩
theorem V_Ln_next : Cond.instanceMethod y_Ln_next ∈ gTbl ∧ Cond.selects y_Ln_next.cls y_Ln_next y_Ln_next ∈ gTbl := ⟨(gt_in (i := 289) (by decide +kernel) rfl), (gt_in (i := 290) (by decide +kernel) rfl)⟩
theorem d_Ln_next_0 : decode b_Ln_next 0 = .ok (.aload_n 0, 1) := by decide +kernel
theorem d_Ln_next_1 : decode b_Ln_next 1 = .ok (.aload_n 0, 1) := by decide +kernel
theorem d_Ln_next_2 : decode b_Ln_next 2 = .ok (.getfield 25, 3) := by decide +kernel
theorem d_Ln_next_5 : decode b_Ln_next 5 = .ok (.putfield 22, 3) := by decide +kernel
theorem d_Ln_next_8 : decode b_Ln_next 8 = .ok (.aload_n 0, 1) := by decide +kernel
theorem d_Ln_next_9 : decode b_Ln_next 9 = .ok (.getfield 22, 3) := by decide +kernel
theorem d_Ln_next_12 : decode b_Ln_next 12 = .ok (.aload_n 0, 1) := by decide +kernel
theorem d_Ln_next_13 : decode b_Ln_next 13 = .ok (.getfield 19, 3) := by decide +kernel
theorem d_Ln_next_16 : decode b_Ln_next 16 = .ok (.if_icmp .ge 32, 3) := by decide +kernel
theorem d_Ln_next_19 : decode b_Ln_next 19 = .ok (.aload_n 0, 1) := by decide +kernel
theorem d_Ln_next_20 : decode b_Ln_next 20 = .ok (.getfield 9, 3) := by decide +kernel
theorem d_Ln_next_23 : decode b_Ln_next 23 = .ok (.aload_n 0, 1) := by decide +kernel
theorem d_Ln_next_24 : decode b_Ln_next 24 = .ok (.getfield 22, 3) := by decide +kernel
theorem d_Ln_next_27 : decode b_Ln_next 27 = .ok (.invokevirtual 28, 3) := by decide +kernel
theorem d_Ln_next_30 : decode b_Ln_next 30 = .ok (.bipush 32, 2) := by decide +kernel
theorem d_Ln_next_32 : decode b_Ln_next 32 = .ok (.if_icmp .ne 16, 3) := by decide +kernel
theorem d_Ln_next_35 : decode b_Ln_next 35 = .ok (.aload_n 0, 1) := by decide +kernel
theorem d_Ln_next_36 : decode b_Ln_next 36 = .ok (.dup, 1) := by decide +kernel
theorem d_Ln_next_37 : decode b_Ln_next 37 = .ok (.getfield 22, 3) := by decide +kernel
theorem d_Ln_next_40 : decode b_Ln_next 40 = .ok (.iconst 1, 1) := by decide +kernel
theorem d_Ln_next_41 : decode b_Ln_next 41 = .ok (.iadd, 1) := by decide +kernel
theorem d_Ln_next_42 : decode b_Ln_next 42 = .ok (.putfield 22, 3) := by decide +kernel
theorem d_Ln_next_45 : decode b_Ln_next 45 = .ok (.goto (-37), 3) := by decide +kernel
theorem d_Ln_next_48 : decode b_Ln_next 48 = .ok (.aload_n 0, 1) := by decide +kernel
theorem d_Ln_next_49 : decode b_Ln_next 49 = .ok (.aload_n 0, 1) := by decide +kernel
theorem d_Ln_next_50 : decode b_Ln_next 50 = .ok (.getfield 22, 3) := by decide +kernel
theorem d_Ln_next_53 : decode b_Ln_next 53 = .ok (.putfield 25, 3) := by decide +kernel
theorem d_Ln_next_56 : decode b_Ln_next 56 = .ok (.aload_n 0, 1) := by decide +kernel
theorem d_Ln_next_57 : decode b_Ln_next 57 = .ok (.getfield 25, 3) := by decide +kernel
theorem d_Ln_next_60 : decode b_Ln_next 60 = .ok (.aload_n 0, 1) := by decide +kernel
theorem d_Ln_next_61 : decode b_Ln_next 61 = .ok (.getfield 19, 3) := by decide +kernel
theorem d_Ln_next_64 : decode b_Ln_next 64 = .ok (.if_icmp .ge 32, 3) := by decide +kernel
theorem d_Ln_next_67 : decode b_Ln_next 67 = .ok (.aload_n 0, 1) := by decide +kernel
theorem d_Ln_next_68 : decode b_Ln_next 68 = .ok (.getfield 9, 3) := by decide +kernel
theorem d_Ln_next_71 : decode b_Ln_next 71 = .ok (.aload_n 0, 1) := by decide +kernel
theorem d_Ln_next_72 : decode b_Ln_next 72 = .ok (.getfield 25, 3) := by decide +kernel
theorem d_Ln_next_75 : decode b_Ln_next 75 = .ok (.invokevirtual 28, 3) := by decide +kernel
theorem d_Ln_next_78 : decode b_Ln_next 78 = .ok (.bipush 32, 2) := by decide +kernel
theorem d_Ln_next_80 : decode b_Ln_next 80 = .ok (.if_icmp .eq 16, 3) := by decide +kernel
theorem d_Ln_next_83 : decode b_Ln_next 83 = .ok (.aload_n 0, 1) := by decide +kernel
theorem d_Ln_next_84 : decode b_Ln_next 84 = .ok (.dup, 1) := by decide +kernel
theorem d_Ln_next_85 : decode b_Ln_next 85 = .ok (.getfield 25, 3) := by decide +kernel
theorem d_Ln_next_88 : decode b_Ln_next 88 = .ok (.iconst 1, 1) := by decide +kernel
theorem d_Ln_next_89 : decode b_Ln_next 89 = .ok (.iadd, 1) := by decide +kernel
theorem d_Ln_next_90 : decode b_Ln_next 90 = .ok (.putfield 25, 3) := by decide +kernel
theorem d_Ln_next_93 : decode b_Ln_next 93 = .ok (.goto (-37), 3) := by decide +kernel
theorem d_Ln_next_96 : decode b_Ln_next 96 = .ok (.aload_n 0, 1) := by decide +kernel
theorem d_Ln_next_97 : decode b_Ln_next 97 = .ok (.getfield 22, 3) := by decide +kernel
theorem d_Ln_next_100 : decode b_Ln_next 100 = .ok (.aload_n 0, 1) := by decide +kernel
theorem d_Ln_next_101 : decode b_Ln_next 101 = .ok (.getfield 25, 3) := by decide +kernel
theorem d_Ln_next_104 : decode b_Ln_next 104 = .ok (.if_icmp .ge 7, 3) := by decide +kernel
theorem d_Ln_next_107 : decode b_Ln_next 107 = .ok (.iconst 1, 1) := by decide +kernel
theorem d_Ln_next_108 : decode b_Ln_next 108 = .ok (.goto 4, 3) := by decide +kernel
theorem d_Ln_next_111 : decode b_Ln_next 111 = .ok (.iconst 0, 1) := by decide +kernel
theorem d_Ln_next_112 : decode b_Ln_next 112 = .ok (.ireturn, 1) := by decide +kernel
abbrev b_Ln_is : ByteArray := prog_5_method_9_code
def y_Ln_is : MethodName := ⟨"SpellDesk$Line", "is", "(Ljava/lang/String;)Z"⟩
set_option maxRecDepth 20000 in
theorem Y_Ln_is : gh_Y y_Ln_is b_Ln_is 3 (some .boolean) 1 := ⟨gt_in (i := 297) rfl rfl, gt_in (i := 4) (by decide +kernel) rfl, by decide +kernel, by decide +kernel, by decide +kernel⟩
theorem V_Ln_is : Cond.instanceMethod y_Ln_is ∈ gTbl ∧ Cond.selects y_Ln_is.cls y_Ln_is y_Ln_is ∈ gTbl := ⟨(gt_in (i := 295) (by decide +kernel) rfl), (gt_in (i := 296) (by decide +kernel) rfl)⟩
theorem d_Ln_is_0 : decode b_Ln_is 0 = .ok (.aload_n 0, 1) := by decide +kernel
theorem d_Ln_is_1 : decode b_Ln_is 1 = .ok (.getfield 25, 3) := by decide +kernel
theorem d_Ln_is_4 : decode b_Ln_is 4 = .ok (.aload_n 0, 1) := by decide +kernel
theorem d_Ln_is_5 : decode b_Ln_is 5 = .ok (.getfield 22, 3) := by decide +kernel
theorem d_Ln_is_8 : decode b_Ln_is 8 = .ok (.isub, 1) := by decide +kernel
theorem d_Ln_is_9 : decode b_Ln_is 9 = .ok (.aload_n 1, 1) := by decide +kernel
theorem d_Ln_is_10 : decode b_Ln_is 10 = .ok (.invokevirtual 44, 3) := by decide +kernel
theorem d_Ln_is_13 : decode b_Ln_is 13 = .ok (.if_icmp .eq 5, 3) := by decide +kernel
theorem d_Ln_is_16 : decode b_Ln_is 16 = .ok (.iconst 0, 1) := by decide +kernel
theorem d_Ln_is_17 : decode b_Ln_is 17 = .ok (.ireturn, 1) := by decide +kernel
theorem d_Ln_is_18 : decode b_Ln_is 18 = .ok (.iconst 0, 1) := by decide +kernel
theorem d_Ln_is_19 : decode b_Ln_is 19 = .ok (.istore_n 2, 1) := by decide +kernel
theorem d_Ln_is_20 : decode b_Ln_is 20 = .ok (.iload_n 2, 1) := by decide +kernel
theorem d_Ln_is_21 : decode b_Ln_is 21 = .ok (.aload_n 1, 1) := by decide +kernel
theorem d_Ln_is_22 : decode b_Ln_is 22 = .ok (.invokevirtual 44, 3) := by decide +kernel
theorem d_Ln_is_25 : decode b_Ln_is 25 = .ok (.if_icmp .ge 32, 3) := by decide +kernel
theorem d_Ln_is_28 : decode b_Ln_is 28 = .ok (.aload_n 0, 1) := by decide +kernel
theorem d_Ln_is_29 : decode b_Ln_is 29 = .ok (.getfield 9, 3) := by decide +kernel
theorem d_Ln_is_32 : decode b_Ln_is 32 = .ok (.aload_n 0, 1) := by decide +kernel
theorem d_Ln_is_33 : decode b_Ln_is 33 = .ok (.getfield 22, 3) := by decide +kernel
theorem d_Ln_is_36 : decode b_Ln_is 36 = .ok (.iload_n 2, 1) := by decide +kernel
theorem d_Ln_is_37 : decode b_Ln_is 37 = .ok (.iadd, 1) := by decide +kernel
theorem d_Ln_is_38 : decode b_Ln_is 38 = .ok (.invokevirtual 28, 3) := by decide +kernel
theorem d_Ln_is_41 : decode b_Ln_is 41 = .ok (.aload_n 1, 1) := by decide +kernel
theorem d_Ln_is_42 : decode b_Ln_is 42 = .ok (.iload_n 2, 1) := by decide +kernel
theorem d_Ln_is_43 : decode b_Ln_is 43 = .ok (.invokevirtual 50, 3) := by decide +kernel
theorem d_Ln_is_46 : decode b_Ln_is 46 = .ok (.if_icmp .eq 5, 3) := by decide +kernel
theorem d_Ln_is_49 : decode b_Ln_is 49 = .ok (.iconst 0, 1) := by decide +kernel
theorem d_Ln_is_50 : decode b_Ln_is 50 = .ok (.ireturn, 1) := by decide +kernel
theorem d_Ln_is_51 : decode b_Ln_is 51 = .ok (.iinc 2 1, 3) := by decide +kernel
theorem d_Ln_is_54 : decode b_Ln_is 54 = .ok (.goto (-34), 3) := by decide +kernel
theorem d_Ln_is_57 : decode b_Ln_is 57 = .ok (.iconst 1, 1) := by decide +kernel
theorem d_Ln_is_58 : decode b_Ln_is 58 = .ok (.ireturn, 1) := by decide +kernel
abbrev b_Ln_start : ByteArray := prog_5_method_5_code
def y_Ln_start : MethodName := ⟨"SpellDesk$Line", "start", "()I"⟩
set_option maxRecDepth 20000 in
theorem Y_Ln_start : gh_Y y_Ln_start b_Ln_start 1 (some .int) 0 := ⟨gt_in (i := 353) rfl rfl, gt_in (i := 4) (by decide +kernel) rfl, by decide +kernel, by decide +kernel, by decide +kernel⟩
theorem V_Ln_start : Cond.instanceMethod y_Ln_start ∈ gTbl ∧ Cond.selects y_Ln_start.cls y_Ln_start y_Ln_start ∈ gTbl := ⟨(gt_in (i := 351) (by decide +kernel) rfl), (gt_in (i := 352) (by decide +kernel) rfl)⟩
theorem d_Ln_start_0 : decode b_Ln_start 0 = .ok (.aload_n 0, 1) := by decide +kernel
theorem d_Ln_start_1 : decode b_Ln_start 1 = .ok (.getfield 22, 3) := by decide +kernel
theorem d_Ln_start_4 : decode b_Ln_start 4 = .ok (.ireturn, 1) := by decide +kernel
abbrev b_Ln_leadingLetters : ByteArray := prog_5_method_10_code
def y_Ln_leadingLetters : MethodName := ⟨"SpellDesk$Line", "leadingLetters", "()I"⟩
set_option maxRecDepth 20000 in
theorem Y_Ln_leadingLetters : gh_Y y_Ln_leadingLetters b_Ln_leadingLetters 2 (some .int) 0 := ⟨gt_in (i := 357) rfl rfl, gt_in (i := 4) (by decide +kernel) rfl, by decide +kernel, by decide +kernel, by decide +kernel⟩
theorem V_Ln_leadingLetters : Cond.instanceMethod y_Ln_leadingLetters ∈ gTbl ∧ Cond.selects y_Ln_leadingLetters.cls y_Ln_leadingLetters y_Ln_leadingLetters ∈ gTbl := ⟨(gt_in (i := 355) (by decide +kernel) rfl), (gt_in (i := 356) (by decide +kernel) rfl)⟩
theorem d_Ln_leadingLetters_0 : decode b_Ln_leadingLetters 0 = .ok (.aload_n 0, 1) := by decide +kernel
theorem d_Ln_leadingLetters_1 : decode b_Ln_leadingLetters 1 = .ok (.getfield 22, 3) := by decide +kernel
theorem d_Ln_leadingLetters_4 : decode b_Ln_leadingLetters 4 = .ok (.istore_n 1, 1) := by decide +kernel
theorem d_Ln_leadingLetters_5 : decode b_Ln_leadingLetters 5 = .ok (.iload_n 1, 1) := by decide +kernel
theorem d_Ln_leadingLetters_6 : decode b_Ln_leadingLetters 6 = .ok (.aload_n 0, 1) := by decide +kernel
theorem d_Ln_leadingLetters_7 : decode b_Ln_leadingLetters 7 = .ok (.getfield 25, 3) := by decide +kernel
theorem d_Ln_leadingLetters_10 : decode b_Ln_leadingLetters 10 = .ok (.if_icmp .ge 23, 3) := by decide +kernel
theorem d_Ln_leadingLetters_13 : decode b_Ln_leadingLetters 13 = .ok (.aload_n 0, 1) := by decide +kernel
theorem d_Ln_leadingLetters_14 : decode b_Ln_leadingLetters 14 = .ok (.getfield 9, 3) := by decide +kernel
theorem d_Ln_leadingLetters_17 : decode b_Ln_leadingLetters 17 = .ok (.iload_n 1, 1) := by decide +kernel
theorem d_Ln_leadingLetters_18 : decode b_Ln_leadingLetters 18 = .ok (.invokevirtual 28, 3) := by decide +kernel
theorem d_Ln_leadingLetters_21 : decode b_Ln_leadingLetters 21 = .ok (.invokestatic 53, 3) := by decide +kernel
theorem d_Ln_leadingLetters_24 : decode b_Ln_leadingLetters 24 = .ok (.ifCond .eq 9, 3) := by decide +kernel
theorem d_Ln_leadingLetters_27 : decode b_Ln_leadingLetters 27 = .ok (.iinc 1 1, 3) := by decide +kernel
theorem d_Ln_leadingLetters_30 : decode b_Ln_leadingLetters 30 = .ok (.goto (-25), 3) := by decide +kernel
theorem d_Ln_leadingLetters_33 : decode b_Ln_leadingLetters 33 = .ok (.iload_n 1, 1) := by decide +kernel
theorem d_Ln_leadingLetters_34 : decode b_Ln_leadingLetters 34 = .ok (.aload_n 0, 1) := by decide +kernel
theorem d_Ln_leadingLetters_35 : decode b_Ln_leadingLetters 35 = .ok (.getfield 22, 3) := by decide +kernel
theorem d_Ln_leadingLetters_38 : decode b_Ln_leadingLetters 38 = .ok (.isub, 1) := by decide +kernel
theorem d_Ln_leadingLetters_39 : decode b_Ln_leadingLetters 39 = .ok (.ireturn, 1) := by decide +kernel
abbrev b_Ln_isLetter : ByteArray := prog_5_method_18_code
def y_Ln_isLetter : MethodName := ⟨"SpellDesk$Line", "isLetter", "(C)Z"⟩
set_option maxRecDepth 20000 in
theorem Y_Ln_isLetter : gh_Y y_Ln_isLetter b_Ln_isLetter 1 (some .boolean) 1 := ⟨gt_in (i := 360) rfl rfl, gt_in (i := 4) (by decide +kernel) rfl, by decide +kernel, by decide +kernel, by decide +kernel⟩
theorem V_Ln_isLetter : Cond.static y_Ln_isLetter ∈ gTbl := (gt_in (i := 359) (by decide +kernel) rfl)
theorem d_Ln_isLetter_0 : decode b_Ln_isLetter 0 = .ok (.iload_n 0, 1) := by decide +kernel
theorem d_Ln_isLetter_1 : decode b_Ln_isLetter 1 = .ok (.bipush 97, 2) := by decide +kernel
theorem d_Ln_isLetter_3 : decode b_Ln_isLetter 3 = .ok (.if_icmp .lt 13, 3) := by decide +kernel
theorem d_Ln_isLetter_6 : decode b_Ln_isLetter 6 = .ok (.iload_n 0, 1) := by decide +kernel
theorem d_Ln_isLetter_7 : decode b_Ln_isLetter 7 = .ok (.bipush 122, 2) := by decide +kernel
theorem d_Ln_isLetter_9 : decode b_Ln_isLetter 9 = .ok (.if_icmp .gt 7, 3) := by decide +kernel
theorem d_Ln_isLetter_12 : decode b_Ln_isLetter 12 = .ok (.iconst 1, 1) := by decide +kernel
theorem d_Ln_isLetter_13 : decode b_Ln_isLetter 13 = .ok (.goto 4, 3) := by decide +kernel
theorem d_Ln_isLetter_16 : decode b_Ln_isLetter 16 = .ok (.iconst 0, 1) := by decide +kernel
theorem d_Ln_isLetter_17 : decode b_Ln_isLetter 17 = .ok (.ireturn, 1) := by decide +kernel
abbrev b_Ln_flagsBehind : ByteArray := prog_5_method_14_code
def y_Ln_flagsBehind : MethodName := ⟨"SpellDesk$Line", "flagsBehind", "(I)I"⟩
set_option maxRecDepth 20000 in
theorem Y_Ln_flagsBehind : gh_Y y_Ln_flagsBehind b_Ln_flagsBehind 6 (some .int) 1 := ⟨gt_in (i := 364) rfl rfl, gt_in (i := 4) (by decide +kernel) rfl, by decide +kernel, by decide +kernel, by decide +kernel⟩
theorem V_Ln_flagsBehind : Cond.instanceMethod y_Ln_flagsBehind ∈ gTbl ∧ Cond.selects y_Ln_flagsBehind.cls y_Ln_flagsBehind y_Ln_flagsBehind ∈ gTbl := ⟨(gt_in (i := 362) (by decide +kernel) rfl), (gt_in (i := 363) (by decide +kernel) rfl)⟩
theorem d_Ln_flagsBehind_0 : decode b_Ln_flagsBehind 0 = .ok (.aload_n 0, 1) := by decide +kernel
theorem d_Ln_flagsBehind_1 : decode b_Ln_flagsBehind 1 = .ok (.getfield 22, 3) := by decide +kernel
theorem d_Ln_flagsBehind_4 : decode b_Ln_flagsBehind 4 = .ok (.iload_n 1, 1) := by decide +kernel
theorem d_Ln_flagsBehind_5 : decode b_Ln_flagsBehind 5 = .ok (.iadd, 1) := by decide +kernel
theorem d_Ln_flagsBehind_6 : decode b_Ln_flagsBehind 6 = .ok (.istore_n 2, 1) := by decide +kernel
theorem d_Ln_flagsBehind_7 : decode b_Ln_flagsBehind 7 = .ok (.iload_n 2, 1) := by decide +kernel
theorem d_Ln_flagsBehind_8 : decode b_Ln_flagsBehind 8 = .ok (.aload_n 0, 1) := by decide +kernel
theorem d_Ln_flagsBehind_9 : decode b_Ln_flagsBehind 9 = .ok (.getfield 25, 3) := by decide +kernel
theorem d_Ln_flagsBehind_12 : decode b_Ln_flagsBehind 12 = .ok (.if_icmp .ne 5, 3) := by decide +kernel
theorem d_Ln_flagsBehind_15 : decode b_Ln_flagsBehind 15 = .ok (.iconst 0, 1) := by decide +kernel
theorem d_Ln_flagsBehind_16 : decode b_Ln_flagsBehind 16 = .ok (.ireturn, 1) := by decide +kernel
theorem d_Ln_flagsBehind_17 : decode b_Ln_flagsBehind 17 = .ok (.aload_n 0, 1) := by decide +kernel
theorem d_Ln_flagsBehind_18 : decode b_Ln_flagsBehind 18 = .ok (.getfield 9, 3) := by decide +kernel
theorem d_Ln_flagsBehind_21 : decode b_Ln_flagsBehind 21 = .ok (.iload_n 2, 1) := by decide +kernel
theorem d_Ln_flagsBehind_22 : decode b_Ln_flagsBehind 22 = .ok (.invokevirtual 28, 3) := by decide +kernel
theorem d_Ln_flagsBehind_25 : decode b_Ln_flagsBehind 25 = .ok (.bipush 47, 2) := by decide +kernel
theorem d_Ln_flagsBehind_27 : decode b_Ln_flagsBehind 27 = .ok (.if_icmp .ne 13, 3) := by decide +kernel
theorem d_Ln_flagsBehind_30 : decode b_Ln_flagsBehind 30 = .ok (.iload_n 2, 1) := by decide +kernel
theorem d_Ln_flagsBehind_31 : decode b_Ln_flagsBehind 31 = .ok (.iconst 1, 1) := by decide +kernel
theorem d_Ln_flagsBehind_32 : decode b_Ln_flagsBehind 32 = .ok (.iadd, 1) := by decide +kernel
theorem d_Ln_flagsBehind_33 : decode b_Ln_flagsBehind 33 = .ok (.aload_n 0, 1) := by decide +kernel
theorem d_Ln_flagsBehind_34 : decode b_Ln_flagsBehind 34 = .ok (.getfield 25, 3) := by decide +kernel
theorem d_Ln_flagsBehind_37 : decode b_Ln_flagsBehind 37 = .ok (.if_icmp .ne 5, 3) := by decide +kernel
theorem d_Ln_flagsBehind_40 : decode b_Ln_flagsBehind 40 = .ok (.iconst (-1), 1) := by decide +kernel
theorem d_Ln_flagsBehind_41 : decode b_Ln_flagsBehind 41 = .ok (.ireturn, 1) := by decide +kernel
theorem d_Ln_flagsBehind_42 : decode b_Ln_flagsBehind 42 = .ok (.iconst 0, 1) := by decide +kernel
theorem d_Ln_flagsBehind_43 : decode b_Ln_flagsBehind 43 = .ok (.istore_n 3, 1) := by decide +kernel
theorem d_Ln_flagsBehind_44 : decode b_Ln_flagsBehind 44 = .ok (.iload_n 2, 1) := by decide +kernel
theorem d_Ln_flagsBehind_45 : decode b_Ln_flagsBehind 45 = .ok (.iconst 1, 1) := by decide +kernel
theorem d_Ln_flagsBehind_46 : decode b_Ln_flagsBehind 46 = .ok (.iadd, 1) := by decide +kernel
theorem d_Ln_flagsBehind_47 : decode b_Ln_flagsBehind 47 = .ok (.istore 4, 2) := by decide +kernel
theorem d_Ln_flagsBehind_49 : decode b_Ln_flagsBehind 49 = .ok (.iload 4, 2) := by decide +kernel
theorem d_Ln_flagsBehind_51 : decode b_Ln_flagsBehind 51 = .ok (.aload_n 0, 1) := by decide +kernel
theorem d_Ln_flagsBehind_52 : decode b_Ln_flagsBehind 52 = .ok (.getfield 25, 3) := by decide +kernel
theorem d_Ln_flagsBehind_55 : decode b_Ln_flagsBehind 55 = .ok (.if_icmp .ge 42, 3) := by decide +kernel
theorem d_Ln_flagsBehind_58 : decode b_Ln_flagsBehind 58 = .ok (.aload_n 0, 1) := by decide +kernel
theorem d_Ln_flagsBehind_59 : decode b_Ln_flagsBehind 59 = .ok (.getfield 9, 3) := by decide +kernel
theorem d_Ln_flagsBehind_62 : decode b_Ln_flagsBehind 62 = .ok (.iload 4, 2) := by decide +kernel
theorem d_Ln_flagsBehind_64 : decode b_Ln_flagsBehind 64 = .ok (.invokevirtual 28, 3) := by decide +kernel
theorem d_Ln_flagsBehind_67 : decode b_Ln_flagsBehind 67 = .ok (.invokestatic 67, 3) := by decide +kernel
theorem d_Ln_flagsBehind_70 : decode b_Ln_flagsBehind 70 = .ok (.istore 5, 2) := by decide +kernel
theorem d_Ln_flagsBehind_72 : decode b_Ln_flagsBehind 72 = .ok (.iload 5, 2) := by decide +kernel
theorem d_Ln_flagsBehind_74 : decode b_Ln_flagsBehind 74 = .ok (.ifCond .eq 10, 3) := by decide +kernel
theorem d_Ln_flagsBehind_77 : decode b_Ln_flagsBehind 77 = .ok (.iload_n 3, 1) := by decide +kernel
theorem d_Ln_flagsBehind_78 : decode b_Ln_flagsBehind 78 = .ok (.iload 5, 2) := by decide +kernel
theorem d_Ln_flagsBehind_80 : decode b_Ln_flagsBehind 80 = .ok (.iand, 1) := by decide +kernel
theorem d_Ln_flagsBehind_81 : decode b_Ln_flagsBehind 81 = .ok (.ifCond .eq 5, 3) := by decide +kernel
theorem d_Ln_flagsBehind_84 : decode b_Ln_flagsBehind 84 = .ok (.iconst (-1), 1) := by decide +kernel
theorem d_Ln_flagsBehind_85 : decode b_Ln_flagsBehind 85 = .ok (.ireturn, 1) := by decide +kernel
theorem d_Ln_flagsBehind_86 : decode b_Ln_flagsBehind 86 = .ok (.iload_n 3, 1) := by decide +kernel
theorem d_Ln_flagsBehind_87 : decode b_Ln_flagsBehind 87 = .ok (.iload 5, 2) := by decide +kernel
theorem d_Ln_flagsBehind_89 : decode b_Ln_flagsBehind 89 = .ok (.ior, 1) := by decide +kernel
theorem d_Ln_flagsBehind_90 : decode b_Ln_flagsBehind 90 = .ok (.istore_n 3, 1) := by decide +kernel
theorem d_Ln_flagsBehind_91 : decode b_Ln_flagsBehind 91 = .ok (.iinc 4 1, 3) := by decide +kernel
theorem d_Ln_flagsBehind_94 : decode b_Ln_flagsBehind 94 = .ok (.goto (-45), 3) := by decide +kernel
theorem d_Ln_flagsBehind_97 : decode b_Ln_flagsBehind 97 = .ok (.iload_n 3, 1) := by decide +kernel
theorem d_Ln_flagsBehind_98 : decode b_Ln_flagsBehind 98 = .ok (.ireturn, 1) := by decide +kernel
abbrev b_Ln_flagBit : ByteArray := prog_5_method_19_code
def y_Ln_flagBit : MethodName := ⟨"SpellDesk$Line", "flagBit", "(C)I"⟩
set_option maxRecDepth 20000 in
theorem Y_Ln_flagBit : gh_Y y_Ln_flagBit b_Ln_flagBit 1 (some .int) 1 := ⟨gt_in (i := 367) rfl rfl, gt_in (i := 4) (by decide +kernel) rfl, by decide +kernel, by decide +kernel, by decide +kernel⟩
theorem V_Ln_flagBit : Cond.static y_Ln_flagBit ∈ gTbl := (gt_in (i := 366) (by decide +kernel) rfl)
theorem d_Ln_flagBit_0 : decode b_Ln_flagBit 0 = .ok (.iload_n 0, 1) := by decide +kernel
theorem d_Ln_flagBit_1 : decode b_Ln_flagBit 1 = .ok (.bipush 65, 2) := by decide +kernel
theorem d_Ln_flagBit_3 : decode b_Ln_flagBit 3 = .ok (.if_icmp .lt 18, 3) := by decide +kernel
theorem d_Ln_flagBit_6 : decode b_Ln_flagBit 6 = .ok (.iload_n 0, 1) := by decide +kernel
theorem d_Ln_flagBit_7 : decode b_Ln_flagBit 7 = .ok (.bipush 90, 2) := by decide +kernel
theorem d_Ln_flagBit_9 : decode b_Ln_flagBit 9 = .ok (.if_icmp .gt 12, 3) := by decide +kernel
theorem d_Ln_flagBit_12 : decode b_Ln_flagBit 12 = .ok (.iconst 1, 1) := by decide +kernel
theorem d_Ln_flagBit_13 : decode b_Ln_flagBit 13 = .ok (.iload_n 0, 1) := by decide +kernel
theorem d_Ln_flagBit_14 : decode b_Ln_flagBit 14 = .ok (.bipush 65, 2) := by decide +kernel
theorem d_Ln_flagBit_16 : decode b_Ln_flagBit 16 = .ok (.isub, 1) := by decide +kernel
theorem d_Ln_flagBit_17 : decode b_Ln_flagBit 17 = .ok (.ishl, 1) := by decide +kernel
theorem d_Ln_flagBit_18 : decode b_Ln_flagBit 18 = .ok (.goto 4, 3) := by decide +kernel
theorem d_Ln_flagBit_21 : decode b_Ln_flagBit 21 = .ok (.iconst 0, 1) := by decide +kernel
theorem d_Ln_flagBit_22 : decode b_Ln_flagBit 22 = .ok (.ireturn, 1) := by decide +kernel
abbrev b_Ln_ends : ByteArray := prog_5_method_4_code
def y_Ln_ends : MethodName := ⟨"SpellDesk$Line", "ends", "()Z"⟩
set_option maxRecDepth 20000 in
theorem Y_Ln_ends : gh_Y y_Ln_ends b_Ln_ends 1 (some .boolean) 0 := ⟨gt_in (i := 371) rfl rfl, gt_in (i := 4) (by decide +kernel) rfl, by decide +kernel, by decide +kernel, by decide +kernel⟩
theorem V_Ln_ends : Cond.instanceMethod y_Ln_ends ∈ gTbl ∧ Cond.selects y_Ln_ends.cls y_Ln_ends y_Ln_ends ∈ gTbl := ⟨(gt_in (i := 369) (by decide +kernel) rfl), (gt_in (i := 370) (by decide +kernel) rfl)⟩
theorem d_Ln_ends_0 : decode b_Ln_ends 0 = .ok (.aload_n 0, 1) := by decide +kernel
theorem d_Ln_ends_1 : decode b_Ln_ends 1 = .ok (.invokevirtual 34, 3) := by decide +kernel
theorem d_Ln_ends_4 : decode b_Ln_ends 4 = .ok (.ifCond .ne 7, 3) := by decide +kernel
theorem d_Ln_ends_7 : decode b_Ln_ends 7 = .ok (.iconst 1, 1) := by decide +kernel
theorem d_Ln_ends_8 : decode b_Ln_ends 8 = .ok (.goto 4, 3) := by decide +kernel
theorem d_Ln_ends_11 : decode b_Ln_ends 11 = .ok (.iconst 0, 1) := by decide +kernel
theorem d_Ln_ends_12 : decode b_Ln_ends 12 = .ok (.ireturn, 1) := by decide +kernel
abbrev b_Ln_nextIsOnlyWord : ByteArray := prog_5_method_13_code
def y_Ln_nextIsOnlyWord : MethodName := ⟨"SpellDesk$Line", "nextIsOnlyWord", "(I)Z"⟩
set_option maxRecDepth 20000 in
theorem Y_Ln_nextIsOnlyWord : gh_Y y_Ln_nextIsOnlyWord b_Ln_nextIsOnlyWord 2 (some .boolean) 1 := ⟨gt_in (i := 799) rfl rfl, gt_in (i := 4) (by decide +kernel) rfl, by decide +kernel, by decide +kernel, by decide +kernel⟩
theorem V_Ln_nextIsOnlyWord : Cond.instanceMethod y_Ln_nextIsOnlyWord ∈ gTbl ∧ Cond.selects y_Ln_nextIsOnlyWord.cls y_Ln_nextIsOnlyWord y_Ln_nextIsOnlyWord ∈ gTbl := ⟨(gt_in (i := 797) (by decide +kernel) rfl), (gt_in (i := 798) (by decide +kernel) rfl)⟩
theorem d_Ln_nextIsOnlyWord_0 : decode b_Ln_nextIsOnlyWord 0 = .ok (.aload_n 0, 1) := by decide +kernel
theorem d_Ln_nextIsOnlyWord_1 : decode b_Ln_nextIsOnlyWord 1 = .ok (.invokevirtual 34, 3) := by decide +kernel
theorem d_Ln_nextIsOnlyWord_4 : decode b_Ln_nextIsOnlyWord 4 = .ok (.ifCond .eq 22, 3) := by decide +kernel
theorem d_Ln_nextIsOnlyWord_7 : decode b_Ln_nextIsOnlyWord 7 = .ok (.aload_n 0, 1) := by decide +kernel
theorem d_Ln_nextIsOnlyWord_8 : decode b_Ln_nextIsOnlyWord 8 = .ok (.iload_n 1, 1) := by decide +kernel
theorem d_Ln_nextIsOnlyWord_9 : decode b_Ln_nextIsOnlyWord 9 = .ok (.invokevirtual 60, 3) := by decide +kernel
theorem d_Ln_nextIsOnlyWord_12 : decode b_Ln_nextIsOnlyWord 12 = .ok (.ifCond .eq 14, 3) := by decide +kernel
theorem d_Ln_nextIsOnlyWord_15 : decode b_Ln_nextIsOnlyWord 15 = .ok (.aload_n 0, 1) := by decide +kernel
theorem d_Ln_nextIsOnlyWord_16 : decode b_Ln_nextIsOnlyWord 16 = .ok (.invokevirtual 64, 3) := by decide +kernel
theorem d_Ln_nextIsOnlyWord_19 : decode b_Ln_nextIsOnlyWord 19 = .ok (.ifCond .eq 7, 3) := by decide +kernel
theorem d_Ln_nextIsOnlyWord_22 : decode b_Ln_nextIsOnlyWord 22 = .ok (.iconst 1, 1) := by decide +kernel
theorem d_Ln_nextIsOnlyWord_23 : decode b_Ln_nextIsOnlyWord 23 = .ok (.goto 4, 3) := by decide +kernel
theorem d_Ln_nextIsOnlyWord_26 : decode b_Ln_nextIsOnlyWord 26 = .ok (.iconst 0, 1) := by decide +kernel
theorem d_Ln_nextIsOnlyWord_27 : decode b_Ln_nextIsOnlyWord 27 = .ok (.ireturn, 1) := by decide +kernel
abbrev b_Ln_isWord : ByteArray := prog_5_method_11_code
def y_Ln_isWord : MethodName := ⟨"SpellDesk$Line", "isWord", "(I)Z"⟩
set_option maxRecDepth 20000 in
theorem Y_Ln_isWord : gh_Y y_Ln_isWord b_Ln_isWord 2 (some .boolean) 1 := ⟨gt_in (i := 803) rfl rfl, gt_in (i := 4) (by decide +kernel) rfl, by decide +kernel, by decide +kernel, by decide +kernel⟩
theorem V_Ln_isWord : Cond.instanceMethod y_Ln_isWord ∈ gTbl ∧ Cond.selects y_Ln_isWord.cls y_Ln_isWord y_Ln_isWord ∈ gTbl := ⟨(gt_in (i := 801) (by decide +kernel) rfl), (gt_in (i := 802) (by decide +kernel) rfl)⟩
theorem d_Ln_isWord_0 : decode b_Ln_isWord 0 = .ok (.aload_n 0, 1) := by decide +kernel
theorem d_Ln_isWord_1 : decode b_Ln_isWord 1 = .ok (.aload_n 0, 1) := by decide +kernel
theorem d_Ln_isWord_2 : decode b_Ln_isWord 2 = .ok (.getfield 22, 3) := by decide +kernel
theorem d_Ln_isWord_5 : decode b_Ln_isWord 5 = .ok (.putfield 38, 3) := by decide +kernel
theorem d_Ln_isWord_8 : decode b_Ln_isWord 8 = .ok (.aload_n 0, 1) := by decide +kernel
theorem d_Ln_isWord_9 : decode b_Ln_isWord 9 = .ok (.aload_n 0, 1) := by decide +kernel
theorem d_Ln_isWord_10 : decode b_Ln_isWord 10 = .ok (.invokevirtual 57, 3) := by decide +kernel
theorem d_Ln_isWord_13 : decode b_Ln_isWord 13 = .ok (.putfield 41, 3) := by decide +kernel
theorem d_Ln_isWord_16 : decode b_Ln_isWord 16 = .ok (.aload_n 0, 1) := by decide +kernel
theorem d_Ln_isWord_17 : decode b_Ln_isWord 17 = .ok (.getfield 41, 3) := by decide +kernel
theorem d_Ln_isWord_20 : decode b_Ln_isWord 20 = .ok (.iconst 1, 1) := by decide +kernel
theorem d_Ln_isWord_21 : decode b_Ln_isWord 21 = .ok (.if_icmp .lt 31, 3) := by decide +kernel
theorem d_Ln_isWord_24 : decode b_Ln_isWord 24 = .ok (.aload_n 0, 1) := by decide +kernel
theorem d_Ln_isWord_25 : decode b_Ln_isWord 25 = .ok (.getfield 41, 3) := by decide +kernel
theorem d_Ln_isWord_28 : decode b_Ln_isWord 28 = .ok (.iload_n 1, 1) := by decide +kernel
theorem d_Ln_isWord_29 : decode b_Ln_isWord 29 = .ok (.if_icmp .gt 23, 3) := by decide +kernel
theorem d_Ln_isWord_32 : decode b_Ln_isWord 32 = .ok (.aload_n 0, 1) := by decide +kernel
theorem d_Ln_isWord_33 : decode b_Ln_isWord 33 = .ok (.getfield 41, 3) := by decide +kernel
theorem d_Ln_isWord_36 : decode b_Ln_isWord 36 = .ok (.aload_n 0, 1) := by decide +kernel
theorem d_Ln_isWord_37 : decode b_Ln_isWord 37 = .ok (.getfield 25, 3) := by decide +kernel
theorem d_Ln_isWord_40 : decode b_Ln_isWord 40 = .ok (.aload_n 0, 1) := by decide +kernel
theorem d_Ln_isWord_41 : decode b_Ln_isWord 41 = .ok (.getfield 22, 3) := by decide +kernel
theorem d_Ln_isWord_44 : decode b_Ln_isWord 44 = .ok (.isub, 1) := by decide +kernel
theorem d_Ln_isWord_45 : decode b_Ln_isWord 45 = .ok (.if_icmp .ne 7, 3) := by decide +kernel
theorem d_Ln_isWord_48 : decode b_Ln_isWord 48 = .ok (.iconst 1, 1) := by decide +kernel
theorem d_Ln_isWord_49 : decode b_Ln_isWord 49 = .ok (.goto 4, 3) := by decide +kernel
theorem d_Ln_isWord_52 : decode b_Ln_isWord 52 = .ok (.iconst 0, 1) := by decide +kernel
theorem d_Ln_isWord_53 : decode b_Ln_isWord 53 = .ok (.ireturn, 1) := by decide +kernel
abbrev b_Ln_wordFrom : ByteArray := prog_5_method_7_code
def y_Ln_wordFrom : MethodName := ⟨"SpellDesk$Line", "wordFrom", "()I"⟩
set_option maxRecDepth 20000 in
theorem Y_Ln_wordFrom : gh_Y y_Ln_wordFrom b_Ln_wordFrom 1 (some .int) 0 := ⟨gt_in (i := 809) rfl rfl, gt_in (i := 4) (by decide +kernel) rfl, by decide +kernel, by decide +kernel, by decide +kernel⟩
theorem V_Ln_wordFrom : Cond.instanceMethod y_Ln_wordFrom ∈ gTbl ∧ Cond.selects y_Ln_wordFrom.cls y_Ln_wordFrom y_Ln_wordFrom ∈ gTbl := ⟨(gt_in (i := 807) (by decide +kernel) rfl), (gt_in (i := 808) (by decide +kernel) rfl)⟩
theorem d_Ln_wordFrom_0 : decode b_Ln_wordFrom 0 = .ok (.aload_n 0, 1) := by decide +kernel
theorem d_Ln_wordFrom_1 : decode b_Ln_wordFrom 1 = .ok (.getfield 38, 3) := by decide +kernel
theorem d_Ln_wordFrom_4 : decode b_Ln_wordFrom 4 = .ok (.ireturn, 1) := by decide +kernel
abbrev b_Ln_wordLength : ByteArray := prog_5_method_8_code
def y_Ln_wordLength : MethodName := ⟨"SpellDesk$Line", "wordLength", "()I"⟩
set_option maxRecDepth 20000 in
theorem Y_Ln_wordLength : gh_Y y_Ln_wordLength b_Ln_wordLength 1 (some .int) 0 := ⟨gt_in (i := 813) rfl rfl, gt_in (i := 4) (by decide +kernel) rfl, by decide +kernel, by decide +kernel, by decide +kernel⟩
theorem V_Ln_wordLength : Cond.instanceMethod y_Ln_wordLength ∈ gTbl ∧ Cond.selects y_Ln_wordLength.cls y_Ln_wordLength y_Ln_wordLength ∈ gTbl := ⟨(gt_in (i := 811) (by decide +kernel) rfl), (gt_in (i := 812) (by decide +kernel) rfl)⟩
theorem d_Ln_wordLength_0 : decode b_Ln_wordLength 0 = .ok (.aload_n 0, 1) := by decide +kernel
theorem d_Ln_wordLength_1 : decode b_Ln_wordLength 1 = .ok (.getfield 41, 3) := by decide +kernel
theorem d_Ln_wordLength_4 : decode b_Ln_wordLength 4 = .ok (.ireturn, 1) := by decide +kernel
abbrev b_Ln_flag : ByteArray := prog_5_method_15_code
def y_Ln_flag : MethodName := ⟨"SpellDesk$Line", "flag", "()I"⟩
set_option maxRecDepth 20000 in
theorem Y_Ln_flag : gh_Y y_Ln_flag b_Ln_flag 1 (some .int) 0 := ⟨gt_in (i := 843) rfl rfl, gt_in (i := 4) (by decide +kernel) rfl, by decide +kernel, by decide +kernel, by decide +kernel⟩
theorem V_Ln_flag : Cond.instanceMethod y_Ln_flag ∈ gTbl ∧ Cond.selects y_Ln_flag.cls y_Ln_flag y_Ln_flag ∈ gTbl := ⟨(gt_in (i := 841) (by decide +kernel) rfl), (gt_in (i := 842) (by decide +kernel) rfl)⟩
theorem d_Ln_flag_0 : decode b_Ln_flag 0 = .ok (.aload_n 0, 1) := by decide +kernel
theorem d_Ln_flag_1 : decode b_Ln_flag 1 = .ok (.getfield 25, 3) := by decide +kernel
theorem d_Ln_flag_4 : decode b_Ln_flag 4 = .ok (.aload_n 0, 1) := by decide +kernel
theorem d_Ln_flag_5 : decode b_Ln_flag 5 = .ok (.getfield 22, 3) := by decide +kernel
theorem d_Ln_flag_8 : decode b_Ln_flag 8 = .ok (.isub, 1) := by decide +kernel
theorem d_Ln_flag_9 : decode b_Ln_flag 9 = .ok (.iconst 1, 1) := by decide +kernel
theorem d_Ln_flag_10 : decode b_Ln_flag 10 = .ok (.if_icmp .ne 20, 3) := by decide +kernel
theorem d_Ln_flag_13 : decode b_Ln_flag 13 = .ok (.aload_n 0, 1) := by decide +kernel
theorem d_Ln_flag_14 : decode b_Ln_flag 14 = .ok (.getfield 9, 3) := by decide +kernel
theorem d_Ln_flag_17 : decode b_Ln_flag 17 = .ok (.aload_n 0, 1) := by decide +kernel
theorem d_Ln_flag_18 : decode b_Ln_flag 18 = .ok (.getfield 22, 3) := by decide +kernel
theorem d_Ln_flag_21 : decode b_Ln_flag 21 = .ok (.invokevirtual 28, 3) := by decide +kernel
theorem d_Ln_flag_24 : decode b_Ln_flag 24 = .ok (.invokestatic 67, 3) := by decide +kernel
theorem d_Ln_flag_27 : decode b_Ln_flag 27 = .ok (.goto 4, 3) := by decide +kernel
theorem d_Ln_flag_30 : decode b_Ln_flag 30 = .ok (.iconst 0, 1) := by decide +kernel
theorem d_Ln_flag_31 : decode b_Ln_flag 31 = .ok (.ireturn, 1) := by decide +kernel
abbrev b_Ln_nextIsPart : ByteArray := prog_5_method_16_code
def y_Ln_nextIsPart : MethodName := ⟨"SpellDesk$Line", "nextIsPart", "(Z)Z"⟩
set_option maxRecDepth 20000 in
theorem Y_Ln_nextIsPart : gh_Y y_Ln_nextIsPart b_Ln_nextIsPart 3 (some .boolean) 1 := ⟨gt_in (i := 847) rfl rfl, gt_in (i := 4) (by decide +kernel) rfl, by decide +kernel, by decide +kernel, by decide +kernel⟩
theorem V_Ln_nextIsPart : Cond.instanceMethod y_Ln_nextIsPart ∈ gTbl ∧ Cond.selects y_Ln_nextIsPart.cls y_Ln_nextIsPart y_Ln_nextIsPart ∈ gTbl := ⟨(gt_in (i := 845) (by decide +kernel) rfl), (gt_in (i := 846) (by decide +kernel) rfl)⟩
theorem d_Ln_nextIsPart_0 : decode b_Ln_nextIsPart 0 = .ok (.aload_n 0, 1) := by decide +kernel
theorem d_Ln_nextIsPart_1 : decode b_Ln_nextIsPart 1 = .ok (.invokevirtual 34, 3) := by decide +kernel
theorem d_Ln_nextIsPart_4 : decode b_Ln_nextIsPart 4 = .ok (.ifCond .ne 5, 3) := by decide +kernel
theorem d_Ln_nextIsPart_7 : decode b_Ln_nextIsPart 7 = .ok (.iconst 0, 1) := by decide +kernel
theorem d_Ln_nextIsPart_8 : decode b_Ln_nextIsPart 8 = .ok (.ireturn, 1) := by decide +kernel
theorem d_Ln_nextIsPart_9 : decode b_Ln_nextIsPart 9 = .ok (.aload_n 0, 1) := by decide +kernel
theorem d_Ln_nextIsPart_10 : decode b_Ln_nextIsPart 10 = .ok (.ldc 71, 2) := by decide +kernel
theorem d_Ln_nextIsPart_12 : decode b_Ln_nextIsPart 12 = .ok (.invokevirtual 73, 3) := by decide +kernel
theorem d_Ln_nextIsPart_15 : decode b_Ln_nextIsPart 15 = .ok (.ifCond .eq 5, 3) := by decide +kernel
theorem d_Ln_nextIsPart_18 : decode b_Ln_nextIsPart 18 = .ok (.iconst 1, 1) := by decide +kernel
theorem d_Ln_nextIsPart_19 : decode b_Ln_nextIsPart 19 = .ok (.ireturn, 1) := by decide +kernel
theorem d_Ln_nextIsPart_20 : decode b_Ln_nextIsPart 20 = .ok (.aload_n 0, 1) := by decide +kernel
theorem d_Ln_nextIsPart_21 : decode b_Ln_nextIsPart 21 = .ok (.getfield 22, 3) := by decide +kernel
theorem d_Ln_nextIsPart_24 : decode b_Ln_nextIsPart 24 = .ok (.istore_n 2, 1) := by decide +kernel
theorem d_Ln_nextIsPart_25 : decode b_Ln_nextIsPart 25 = .ok (.iload_n 2, 1) := by decide +kernel
theorem d_Ln_nextIsPart_26 : decode b_Ln_nextIsPart 26 = .ok (.aload_n 0, 1) := by decide +kernel
theorem d_Ln_nextIsPart_27 : decode b_Ln_nextIsPart 27 = .ok (.getfield 25, 3) := by decide +kernel
theorem d_Ln_nextIsPart_30 : decode b_Ln_nextIsPart 30 = .ok (.if_icmp .ge 42, 3) := by decide +kernel
theorem d_Ln_nextIsPart_33 : decode b_Ln_nextIsPart 33 = .ok (.aload_n 0, 1) := by decide +kernel
theorem d_Ln_nextIsPart_34 : decode b_Ln_nextIsPart 34 = .ok (.getfield 9, 3) := by decide +kernel
theorem d_Ln_nextIsPart_37 : decode b_Ln_nextIsPart 37 = .ok (.iload_n 2, 1) := by decide +kernel
theorem d_Ln_nextIsPart_38 : decode b_Ln_nextIsPart 38 = .ok (.invokevirtual 28, 3) := by decide +kernel
theorem d_Ln_nextIsPart_41 : decode b_Ln_nextIsPart 41 = .ok (.invokestatic 53, 3) := by decide +kernel
theorem d_Ln_nextIsPart_44 : decode b_Ln_nextIsPart 44 = .ok (.ifCond .ne 22, 3) := by decide +kernel
theorem d_Ln_nextIsPart_47 : decode b_Ln_nextIsPart 47 = .ok (.iload_n 1, 1) := by decide +kernel
theorem d_Ln_nextIsPart_48 : decode b_Ln_nextIsPart 48 = .ok (.ifCond .eq 16, 3) := by decide +kernel
theorem d_Ln_nextIsPart_51 : decode b_Ln_nextIsPart 51 = .ok (.aload_n 0, 1) := by decide +kernel
theorem d_Ln_nextIsPart_52 : decode b_Ln_nextIsPart 52 = .ok (.getfield 9, 3) := by decide +kernel
theorem d_Ln_nextIsPart_55 : decode b_Ln_nextIsPart 55 = .ok (.iload_n 2, 1) := by decide +kernel
theorem d_Ln_nextIsPart_56 : decode b_Ln_nextIsPart 56 = .ok (.invokevirtual 28, 3) := by decide +kernel
theorem d_Ln_nextIsPart_59 : decode b_Ln_nextIsPart 59 = .ok (.bipush 46, 2) := by decide +kernel
theorem d_Ln_nextIsPart_61 : decode b_Ln_nextIsPart 61 = .ok (.if_icmp .eq 5, 3) := by decide +kernel
theorem d_Ln_nextIsPart_64 : decode b_Ln_nextIsPart 64 = .ok (.iconst 0, 1) := by decide +kernel
theorem d_Ln_nextIsPart_65 : decode b_Ln_nextIsPart 65 = .ok (.ireturn, 1) := by decide +kernel
theorem d_Ln_nextIsPart_66 : decode b_Ln_nextIsPart 66 = .ok (.iinc 2 1, 3) := by decide +kernel
theorem d_Ln_nextIsPart_69 : decode b_Ln_nextIsPart 69 = .ok (.goto (-44), 3) := by decide +kernel
theorem d_Ln_nextIsPart_72 : decode b_Ln_nextIsPart 72 = .ok (.aload_n 0, 1) := by decide +kernel
theorem d_Ln_nextIsPart_73 : decode b_Ln_nextIsPart 73 = .ok (.getfield 25, 3) := by decide +kernel
theorem d_Ln_nextIsPart_76 : decode b_Ln_nextIsPart 76 = .ok (.aload_n 0, 1) := by decide +kernel
theorem d_Ln_nextIsPart_77 : decode b_Ln_nextIsPart 77 = .ok (.getfield 22, 3) := by decide +kernel
theorem d_Ln_nextIsPart_80 : decode b_Ln_nextIsPart 80 = .ok (.isub, 1) := by decide +kernel
theorem d_Ln_nextIsPart_81 : decode b_Ln_nextIsPart 81 = .ok (.bipush 6, 2) := by decide +kernel
theorem d_Ln_nextIsPart_83 : decode b_Ln_nextIsPart 83 = .ok (.if_icmp .gt 7, 3) := by decide +kernel
theorem d_Ln_nextIsPart_86 : decode b_Ln_nextIsPart 86 = .ok (.iconst 1, 1) := by decide +kernel
theorem d_Ln_nextIsPart_87 : decode b_Ln_nextIsPart 87 = .ok (.goto 4, 3) := by decide +kernel
theorem d_Ln_nextIsPart_90 : decode b_Ln_nextIsPart 90 = .ok (.iconst 0, 1) := by decide +kernel
theorem d_Ln_nextIsPart_91 : decode b_Ln_nextIsPart 91 = .ok (.ireturn, 1) := by decide +kernel
abbrev b_Ln_part : ByteArray := prog_5_method_17_code
def y_Ln_part : MethodName := ⟨"SpellDesk$Line", "part", "()LSpellDesk$Letters;"⟩
set_option maxRecDepth 20000 in
theorem Y_Ln_part : gh_Y y_Ln_part b_Ln_part 1 (some (.object "SpellDesk$Letters")) 0 := ⟨gt_in (i := 853) rfl rfl, gt_in (i := 4) (by decide +kernel) rfl, by decide +kernel, by decide +kernel, by decide +kernel⟩
theorem V_Ln_part : Cond.instanceMethod y_Ln_part ∈ gTbl ∧ Cond.selects y_Ln_part.cls y_Ln_part y_Ln_part ∈ gTbl := ⟨(gt_in (i := 851) (by decide +kernel) rfl), (gt_in (i := 852) (by decide +kernel) rfl)⟩
theorem d_Ln_part_0 : decode b_Ln_part 0 = .ok (.aload_n 0, 1) := by decide +kernel
theorem d_Ln_part_1 : decode b_Ln_part 1 = .ok (.getfield 9, 3) := by decide +kernel
theorem d_Ln_part_4 : decode b_Ln_part 4 = .ok (.aload_n 0, 1) := by decide +kernel
theorem d_Ln_part_5 : decode b_Ln_part 5 = .ok (.getfield 22, 3) := by decide +kernel
theorem d_Ln_part_8 : decode b_Ln_part 8 = .ok (.aload_n 0, 1) := by decide +kernel
theorem d_Ln_part_9 : decode b_Ln_part 9 = .ok (.ldc 71, 2) := by decide +kernel
theorem d_Ln_part_11 : decode b_Ln_part 11 = .ok (.invokevirtual 73, 3) := by decide +kernel
theorem d_Ln_part_14 : decode b_Ln_part 14 = .ok (.ifCond .eq 7, 3) := by decide +kernel
theorem d_Ln_part_17 : decode b_Ln_part 17 = .ok (.iconst 0, 1) := by decide +kernel
theorem d_Ln_part_18 : decode b_Ln_part 18 = .ok (.goto 12, 3) := by decide +kernel
theorem d_Ln_part_21 : decode b_Ln_part 21 = .ok (.aload_n 0, 1) := by decide +kernel
theorem d_Ln_part_22 : decode b_Ln_part 22 = .ok (.getfield 25, 3) := by decide +kernel
theorem d_Ln_part_25 : decode b_Ln_part 25 = .ok (.aload_n 0, 1) := by decide +kernel
theorem d_Ln_part_26 : decode b_Ln_part 26 = .ok (.getfield 22, 3) := by decide +kernel
theorem d_Ln_part_29 : decode b_Ln_part 29 = .ok (.isub, 1) := by decide +kernel
theorem d_Ln_part_30 : decode b_Ln_part 30 = .ok (.invokevirtual 77, 3) := by decide +kernel
theorem d_Ln_part_33 : decode b_Ln_part 33 = .ok (.areturn, 1) := by decide +kernel
abbrev b_Ln_nextIsWord : ByteArray := prog_5_method_12_code
def y_Ln_nextIsWord : MethodName := ⟨"SpellDesk$Line", "nextIsWord", "(I)Z"⟩
set_option maxRecDepth 20000 in
theorem Y_Ln_nextIsWord : gh_Y y_Ln_nextIsWord b_Ln_nextIsWord 2 (some .boolean) 1 := ⟨gt_in (i := 887) rfl rfl, gt_in (i := 4) (by decide +kernel) rfl, by decide +kernel, by decide +kernel, by decide +kernel⟩
theorem V_Ln_nextIsWord : Cond.instanceMethod y_Ln_nextIsWord ∈ gTbl ∧ Cond.selects y_Ln_nextIsWord.cls y_Ln_nextIsWord y_Ln_nextIsWord ∈ gTbl := ⟨(gt_in (i := 885) (by decide +kernel) rfl), (gt_in (i := 886) (by decide +kernel) rfl)⟩
theorem d_Ln_nextIsWord_0 : decode b_Ln_nextIsWord 0 = .ok (.aload_n 0, 1) := by decide +kernel
theorem d_Ln_nextIsWord_1 : decode b_Ln_nextIsWord 1 = .ok (.invokevirtual 34, 3) := by decide +kernel
theorem d_Ln_nextIsWord_4 : decode b_Ln_nextIsWord 4 = .ok (.ifCond .eq 15, 3) := by decide +kernel
theorem d_Ln_nextIsWord_7 : decode b_Ln_nextIsWord 7 = .ok (.aload_n 0, 1) := by decide +kernel
theorem d_Ln_nextIsWord_8 : decode b_Ln_nextIsWord 8 = .ok (.iload_n 1, 1) := by decide +kernel
theorem d_Ln_nextIsWord_9 : decode b_Ln_nextIsWord 9 = .ok (.invokevirtual 60, 3) := by decide +kernel
theorem d_Ln_nextIsWord_12 : decode b_Ln_nextIsWord 12 = .ok (.ifCond .eq 7, 3) := by decide +kernel
theorem d_Ln_nextIsWord_15 : decode b_Ln_nextIsWord 15 = .ok (.iconst 1, 1) := by decide +kernel
theorem d_Ln_nextIsWord_16 : decode b_Ln_nextIsWord 16 = .ok (.goto 4, 3) := by decide +kernel
theorem d_Ln_nextIsWord_19 : decode b_Ln_nextIsWord 19 = .ok (.iconst 0, 1) := by decide +kernel
theorem d_Ln_nextIsWord_20 : decode b_Ln_nextIsWord 20 = .ok (.ireturn, 1) := by decide +kernel
abbrev b_Ln_place : ByteArray := prog_5_method_6_code
def y_Ln_place : MethodName := ⟨"SpellDesk$Line", "place", "()I"⟩
set_option maxRecDepth 20000 in
theorem Y_Ln_place : gh_Y y_Ln_place b_Ln_place 1 (some .int) 0 := ⟨gt_in (i := 1060) rfl rfl, gt_in (i := 4) (by decide +kernel) rfl, by decide +kernel, by decide +kernel, by decide +kernel⟩
theorem V_Ln_place : Cond.instanceMethod y_Ln_place ∈ gTbl ∧ Cond.selects y_Ln_place.cls y_Ln_place y_Ln_place ∈ gTbl := ⟨(gt_in (i := 1058) (by decide +kernel) rfl), (gt_in (i := 1059) (by decide +kernel) rfl)⟩
theorem d_Ln_place_0 : decode b_Ln_place 0 = .ok (.aload_n 0, 1) := by decide +kernel
theorem d_Ln_place_1 : decode b_Ln_place 1 = .ok (.getfield 22, 3) := by decide +kernel
theorem d_Ln_place_4 : decode b_Ln_place 4 = .ok (.aload_n 0, 1) := by decide +kernel
theorem d_Ln_place_5 : decode b_Ln_place 5 = .ok (.getfield 15, 3) := by decide +kernel
theorem d_Ln_place_8 : decode b_Ln_place 8 = .ok (.isub, 1) := by decide +kernel
theorem d_Ln_place_9 : decode b_Ln_place 9 = .ok (.iconst 1, 1) := by decide +kernel
theorem d_Ln_place_10 : decode b_Ln_place 10 = .ok (.iadd, 1) := by decide +kernel
theorem d_Ln_place_11 : decode b_Ln_place 11 = .ok (.ireturn, 1) := by decide +kernel
theorem kf_Ln_9 : Cond.fieldLink "SpellDesk$Line" 9 "SpellDesk$Line" "text" "LSpellDesk$Letters;" ∈ gTbl := (gt_in (i := 63) (by decide +kernel) rfl)
theorem kf_Ln_15 : Cond.fieldLink "SpellDesk$Line" 15 "SpellDesk$Line" "lineStart" "I" ∈ gTbl := (gt_in (i := 64) (by decide +kernel) rfl)
theorem kf_Ln_19 : Cond.fieldLink "SpellDesk$Line" 19 "SpellDesk$Line" "lineEnd" "I" ∈ gTbl := (gt_in (i := 65) (by decide +kernel) rfl)
theorem kf_Ln_22 : Cond.fieldLink "SpellDesk$Line" 22 "SpellDesk$Line" "start" "I" ∈ gTbl := (gt_in (i := 66) (by decide +kernel) rfl)
theorem kf_Ln_25 : Cond.fieldLink "SpellDesk$Line" 25 "SpellDesk$Line" "end" "I" ∈ gTbl := (gt_in (i := 67) (by decide +kernel) rfl)
theorem kf_Ln_38 : Cond.fieldLink "SpellDesk$Line" 38 "SpellDesk$Line" "wordFrom" "I" ∈ gTbl := (gt_in (i := 68) (by decide +kernel) rfl)
theorem kf_Ln_41 : Cond.fieldLink "SpellDesk$Line" 41 "SpellDesk$Line" "wordLength" "I" ∈ gTbl := (gt_in (i := 69) (by decide +kernel) rfl)
theorem km_Ln_3 : Cond.methodLink "SpellDesk$Line" 3 ⟨"java/lang/Object", "<init>", "()V"⟩ ∈ gTbl := (gt_in (i := 62) (by decide +kernel) rfl)
theorem km_Ln_28 : Cond.methodLink "SpellDesk$Line" 28 ⟨"SpellDesk$Letters", "at", "(I)C"⟩ ∈ gTbl := (gt_in (i := 292) (by decide +kernel) rfl)
theorem km_Ln_34 : Cond.methodLink "SpellDesk$Line" 34 ⟨"SpellDesk$Line", "next", "()Z"⟩ ∈ gTbl := (gt_in (i := 372) (by decide +kernel) rfl)
theorem km_Ln_44 : Cond.methodLink "SpellDesk$Line" 44 ⟨"java/lang/String", "length", "()I"⟩ ∈ gTbl := (gt_in (i := 298) (by decide +kernel) rfl)
theorem km_Ln_50 : Cond.methodLink "SpellDesk$Line" 50 ⟨"java/lang/String", "charAt", "(I)C"⟩ ∈ gTbl := (gt_in (i := 308) (by decide +kernel) rfl)
theorem km_Ln_53 : Cond.methodLink "SpellDesk$Line" 53 ⟨"SpellDesk$Line", "isLetter", "(C)Z"⟩ ∈ gTbl := (gt_in (i := 358) (by decide +kernel) rfl)
theorem km_Ln_57 : Cond.methodLink "SpellDesk$Line" 57 ⟨"SpellDesk$Line", "leadingLetters", "()I"⟩ ∈ gTbl := (gt_in (i := 804) (by decide +kernel) rfl)
theorem km_Ln_60 : Cond.methodLink "SpellDesk$Line" 60 ⟨"SpellDesk$Line", "isWord", "(I)Z"⟩ ∈ gTbl := (gt_in (i := 800) (by decide +kernel) rfl)
theorem km_Ln_64 : Cond.methodLink "SpellDesk$Line" 64 ⟨"SpellDesk$Line", "ends", "()Z"⟩ ∈ gTbl := (gt_in (i := 805) (by decide +kernel) rfl)
theorem km_Ln_67 : Cond.methodLink "SpellDesk$Line" 67 ⟨"SpellDesk$Line", "flagBit", "(C)I"⟩ ∈ gTbl := (gt_in (i := 365) (by decide +kernel) rfl)
theorem km_Ln_73 : Cond.methodLink "SpellDesk$Line" 73 ⟨"SpellDesk$Line", "is", "(Ljava/lang/String;)Z"⟩ ∈ gTbl := (gt_in (i := 849) (by decide +kernel) rfl)
theorem km_Ln_77 : Cond.methodLink "SpellDesk$Line" 77 ⟨"SpellDesk$Letters", "copy", "(II)LSpellDesk$Letters;"⟩ ∈ gTbl := (gt_in (i := 854) (by decide +kernel) rfl)
end
section
/-! truth values as ints; scanning -/
def bn (b : Bool) : Nat := if b = true then 1 else 0
theorem bn_t : bn true = 1 := rfl
theorem bn_f : bn false = 0 := rfl
theorem bn_nar (b : Bool) : narrow .boolean (.int (nI (bn b))) = .int (nI (bn b)) := by cases b <;> rfl
section GHB
variable {l : Launch} {G : GG} {R : Room} {X : GX} {cc : ByteArray} {nL : Nat} {own : String} {g : GH} {k n pc : Nat} {lv : List (Option Value)} {st : List Value}
theorem gh_if_eqB {b : Bool} {off : Int} {tgt : Nat} (hK : gh_K G X cc nL own) (hd : decode cc pc = .ok (.ifCond .eq off, 3)) (ht : (pc : Int) + off = (tgt : Int)) (kt : b = false → gh_W l G R X g k n lv tgt st) (kf : b = true → gh_W l G R X g k n lv (pc + 3) st) : gh_W l G R X g k n lv pc (.int (nI (bn b)) :: st) := by
  cases b with
  | false => exact gh_if_eqN hK hd ht (by decide) (fun _ => kt rfl) (fun z => absurd z (by decide))
  | true => exact gh_if_eqN hK hd ht (by decide) (fun z => absurd z (by decide)) (fun _ => kf rfl)
theorem gh_if_neB {b : Bool} {off : Int} {tgt : Nat} (hK : gh_K G X cc nL own) (hd : decode cc pc = .ok (.ifCond .ne off, 3)) (ht : (pc : Int) + off = (tgt : Int)) (kt : b = true → gh_W l G R X g k n lv tgt st) (kf : b = false → gh_W l G R X g k n lv (pc + 3) st) : gh_W l G R X g k n lv pc (.int (nI (bn b)) :: st) := by
  cases b with
  | false => exact gh_if_neN hK hd ht (by decide) (fun z => absurd z (by decide)) (fun _ => kf rfl)
  | true => exact gh_if_neN hK hd ht (by decide) (fun _ => kt rfl) (fun z => absurd z (by decide))
end GHB
def scF (p : Nat → Bool) : Nat → Nat → Nat
  | 0, i => i
  | f + 1, i => if p i = true then scF p f (i + 1) else i
def sc (p : Nat → Bool) (e i : Nat) : Nat := scF p (e - i) i
theorem sc_out {p : Nat → Bool} {e i : Nat} (h : e ≤ i) : sc p e i = i := by unfold sc; rw [show e - i = 0 by omega]; rfl
theorem sc_yes {p : Nat → Bool} {e i : Nat} (h : i < e) (hp : p i = true) : sc p e i = sc p e (i + 1) := by
  unfold sc
  rw [show e - i = (e - (i + 1)) + 1 by omega]
  show (if p i = true then _ else _) = _
  rw [if_pos hp]
theorem sc_no {p : Nat → Bool} {e i : Nat} (hp : ¬ p i = true) : sc p e i = i := by
  unfold sc
  cases e - i with
  | zero => rfl
  | succ n => exact if_neg hp
theorem scF_ge (p : Nat → Bool) : ∀ (f i : Nat), i ≤ scF p f i ∧ scF p f i ≤ i + f
  | 0, i => ⟨Nat.le_refl _, Nat.le_refl _⟩
  | f + 1, i => by
    rw [scF]
    split
    · have := scF_ge p f (i + 1); omega
    · omega
theorem sc_ge (p : Nat → Bool) (e i : Nat) : i ≤ sc p e i := (scF_ge p (e - i) i).1
theorem sc_le {p : Nat → Bool} {e i : Nat} (h : i ≤ e) : sc p e i ≤ e := by
  have := (scF_ge p (e - i) i).2
  unfold sc
  omega
theorem scF_all (p : Nat → Bool) : ∀ (f i j : Nat), i ≤ j → j < scF p f i → p j = true
  | 0, i, j, h1, h2 => by rw [scF] at h2; omega
  | f + 1, i, j, h1, h2 => by
    rw [scF] at h2
    split at h2
    · next hp =>
      by_cases hij : j = i
      · rw [hij]; exact hp
      · exact scF_all p f (i + 1) j (by omega) h2
    · omega
theorem sc_all {p : Nat → Bool} {e i j : Nat} (h1 : i ≤ j) (h2 : j < sc p e i) : p j = true := scF_all p (e - i) i j h1 h2
theorem scF_stop (p : Nat → Bool) : ∀ (f i : Nat), scF p f i < i + f → p (scF p f i) = false
  | 0, i, h => by rw [scF] at h; omega
  | f + 1, i, h => by
    rw [scF] at h ⊢
    split
    · next hp => rw [if_pos hp] at h; exact scF_stop p f (i + 1) (by omega)
    · next hp => exact Bool.eq_false_iff.mpr hp
theorem sc_stop {p : Nat → Bool} {e i : Nat} (h : sc p e i < e) (hi : i ≤ e) : p (sc p e i) = false := scF_stop p (e - i) i (by show sc p e i < _; omega)
/-- letters, spaces, the next piece -/
def isLet (c : Nat) : Bool := decide (97 ≤ c ∧ c ≤ 122)
def isCap (c : Nat) : Bool := decide (65 ≤ c ∧ c ≤ 90)
def isSpc (tx : List Nat) (i : Nat) : Bool := decide (tx.getD i 0 = 32)
def nxS (tx : List Nat) (le e : Nat) : Nat := sc (isSpc tx) le e
def nxE (tx : List Nat) (le e : Nat) : Nat := sc (fun i => !isSpc tx i) le (nxS tx le e)
theorem nxS_le {tx : List Nat} {le e : Nat} (h : e ≤ le) : e ≤ nxS tx le e ∧ nxS tx le e ≤ le := ⟨sc_ge _ _ _, sc_le h⟩
theorem nxE_le {tx : List Nat} {le e : Nat} (h : e ≤ le) : nxS tx le e ≤ nxE tx le e ∧ nxE tx le e ≤ le := ⟨sc_ge _ _ _, sc_le (nxS_le h).2⟩
/-! THE LINE -/
abbrev LnE (ta ls le s e wf wl : Nat) : va_E := .inr (4, [.ref ta, .int (nI ls), .int (nI le), .int (nI s), .int (nI e), .int (nI wf), .int (nI wl)])
def Ln (g : GH) (la ta ls le s e wf wl : Nat) : Prop := g la = some (3, LnE ta ls le s e wf wl)
theorem Ln.N {g g' : GH} {la ta ls le s e wf wl : Nat} {S : List Nat} (h : Ln g la ta ls le s e wf wl) (hN : gh_N S g g') (h1 : la ∉ S) : Ln g' la ta ls le s e wf wl := by
  unfold Ln at h ⊢
  rw [hN la h1 (by rw [h]; exact fun z => by cases z)]
  exact h
theorem Ln.M {g g' : GH} {la ta ls le s e wf wl : Nat} {S : List Nat} (h : Ln g la ta ls le s e wf wl) (hM : gh_M S g g') (h1 : 3 ∉ S) : Ln g' la ta ls le s e wf wl := hM la 3 _ h h1
theorem Ln.toM {g g' : GH} {la ta ls le s e wf wl : Nat} (h : Ln g la ta ls le s e wf wl) (hN : gh_N [la] g g') : gh_M [3] g g' := hN.M fun a ha => by
  rw [List.mem_singleton.mp ha]
  exact ⟨_, _, h, by decide⟩
theorem Ln.T {G : GG} {g g' : GH} {la ta ls le s e wf wl tb : Nat} {tx : List Nat} (h : Ln g la ta ls le s e wf wl) (hT : Lt G g ta 1 tb 2 2048 tx) (hN : gh_N [la] g g') : Lt G g' ta 1 tb 2 2048 tx := hT.M (h.toM hN) (by decide) (by decide)
set_option maxRecDepth 20000 in
set_option maxHeartbeats 4000000 in
theorem c_Ln_start (l : Launch) (G : GG) {g : GH} {la ta ls le s e wf wl : Nat} (h : Ln g la ta ls le s e wf wl) : gMet l G y_Ln_start b_Ln_start 1 (some .int) (rmk 0 0 0 0) [.ref la] g (fun v g' => v = some (.int (nI s)) ∧ g' = g) := by
  refine gMet.of [some (.ref la)] (by decide +kernel) rfl (Nat.le_of_ble_eq_true rfl) rfl (fun X hK hI hE => ?_)
  refine gh_aload_n hK d_Ln_start_0 rfl ?_
  refine gh_get hK d_Ln_start_1 in_Ln rfl h 3 (by decide) kf_Ln_22 rfl rfl ?_
  exact gh_iret hK hE d_Ln_start_4 (Nat.le_of_ble_eq_true rfl) (Nat.le_of_ble_eq_true rfl) ⟨rfl, rfl⟩
set_option maxRecDepth 20000 in
set_option maxHeartbeats 4000000 in
theorem c_Ln_wordFrom (l : Launch) (G : GG) {g : GH} {la ta ls le s e wf wl : Nat} (h : Ln g la ta ls le s e wf wl) : gMet l G y_Ln_wordFrom b_Ln_wordFrom 1 (some .int) (rmk 0 0 0 0) [.ref la] g (fun v g' => v = some (.int (nI wf)) ∧ g' = g) := by
  refine gMet.of [some (.ref la)] (by decide +kernel) rfl (Nat.le_of_ble_eq_true rfl) rfl (fun X hK hI hE => ?_)
  refine gh_aload_n hK d_Ln_wordFrom_0 rfl ?_
  refine gh_get hK d_Ln_wordFrom_1 in_Ln rfl h 5 (by decide) kf_Ln_38 rfl rfl ?_
  exact gh_iret hK hE d_Ln_wordFrom_4 (Nat.le_of_ble_eq_true rfl) (Nat.le_of_ble_eq_true rfl) ⟨rfl, rfl⟩
set_option maxRecDepth 20000 in
set_option maxHeartbeats 4000000 in
theorem c_Ln_wordLength (l : Launch) (G : GG) {g : GH} {la ta ls le s e wf wl : Nat} (h : Ln g la ta ls le s e wf wl) : gMet l G y_Ln_wordLength b_Ln_wordLength 1 (some .int) (rmk 0 0 0 0) [.ref la] g (fun v g' => v = some (.int (nI wl)) ∧ g' = g) := by
  refine gMet.of [some (.ref la)] (by decide +kernel) rfl (Nat.le_of_ble_eq_true rfl) rfl (fun X hK hI hE => ?_)
  refine gh_aload_n hK d_Ln_wordLength_0 rfl ?_
  refine gh_get hK d_Ln_wordLength_1 in_Ln rfl h 6 (by decide) kf_Ln_41 rfl rfl ?_
  exact gh_iret hK hE d_Ln_wordLength_4 (Nat.le_of_ble_eq_true rfl) (Nat.le_of_ble_eq_true rfl) ⟨rfl, rfl⟩
set_option maxRecDepth 20000 in
set_option maxHeartbeats 4000000 in
theorem c_Ln_place (l : Launch) (G : GG) {g : GH} {la ta ls le s e wf wl : Nat} (h : Ln g la ta ls le s e wf wl) (hs : ls ≤ s) : gMet l G y_Ln_place b_Ln_place 1 (some .int) (rmk 0 0 0 0) [.ref la] g (fun v g' => v = some (.int (nI (s - ls + 1))) ∧ g' = g) := by
  refine gMet.of [some (.ref la)] (by decide +kernel) rfl (Nat.le_of_ble_eq_true rfl) rfl (fun X hK hI hE => ?_)
  refine gh_aload_n hK d_Ln_place_0 rfl ?_
  refine gh_get hK d_Ln_place_1 in_Ln rfl h 3 (by decide) kf_Ln_22 rfl rfl ?_
  refine gh_aload_n hK d_Ln_place_4 rfl ?_
  refine gh_get hK d_Ln_place_5 in_Ln rfl h 1 (by decide) kf_Ln_15 rfl rfl ?_
  refine gh_subN hK d_Ln_place_8 (by omega) ?_
  refine gh_iconst (v := nI 1) hK d_Ln_place_9 (by decide) ?_
  refine gh_addN hK d_Ln_place_10 ?_
  exact gh_iret hK hE d_Ln_place_11 (Nat.le_of_ble_eq_true rfl) (Nat.le_of_ble_eq_true rfl) ⟨rfl, rfl⟩
set_option maxRecDepth 20000 in
set_option maxHeartbeats 4000000 in
theorem c_Ln_open (l : Launch) (G : GG) {g : GH} {la ta ls le s e wf wl : Nat} {fr to : Nat} (h : Ln g la ta ls le s e wf wl) : gMet l G y_Ln_open b_Ln_open 3 none (rmk 0 0 0 0) [.ref la, .int (nI fr), .int (nI to)] g (fun v g' => v = none ∧ Ln g' la ta fr to fr fr wf wl ∧ gh_N [la] g g') := by
  refine gMet.of [some (.ref la), some (.int (nI fr)), some (.int (nI to))] (by decide +kernel) rfl (Nat.le_of_ble_eq_true rfl) rfl (fun X hK hI hE => ?_)
  refine gh_aload_n hK d_Ln_open_0 rfl ?_
  refine gh_iload_n hK d_Ln_open_1 rfl ?_
  refine gh_put hK d_Ln_open_2 in_Ln t_Ln ty_Ln nm_Ln rfl h 1 (by decide) kf_Ln_15 rfl rfl rfl rfl (Nat.le_of_ble_eq_true rfl) rfl ?_
  refine gh_aload_n hK d_Ln_open_5 rfl ?_
  refine gh_iload_n hK d_Ln_open_6 rfl ?_
  refine gh_put hK d_Ln_open_7 in_Ln t_Ln ty_Ln nm_Ln rfl gh_us 2 (by decide) kf_Ln_19 rfl rfl rfl rfl (Nat.le_of_ble_eq_true rfl) rfl ?_
  refine gh_aload_n hK d_Ln_open_10 rfl ?_
  refine gh_iload_n hK d_Ln_open_11 rfl ?_
  refine gh_put hK d_Ln_open_12 in_Ln t_Ln ty_Ln nm_Ln rfl gh_us 3 (by decide) kf_Ln_22 rfl rfl rfl rfl (Nat.le_of_ble_eq_true rfl) rfl ?_
  refine gh_aload_n hK d_Ln_open_15 rfl ?_
  refine gh_iload_n hK d_Ln_open_16 rfl ?_
  refine gh_put hK d_Ln_open_17 in_Ln t_Ln ty_Ln nm_Ln rfl gh_us 4 (by decide) kf_Ln_25 rfl rfl rfl rfl (Nat.le_of_ble_eq_true rfl) rfl ?_
  exact gh_vret hK hE d_Ln_open_20 (Nat.le_of_ble_eq_true rfl) (Nat.le_of_ble_eq_true rfl) ⟨rfl, gh_us, ((gh_N.up (by simp)).tr (gh_N.up (by simp))).tr ((gh_N.up (by simp)).tr (gh_N.up (by simp)))⟩
set_option maxRecDepth 20000 in
set_option maxHeartbeats 4000000 in
theorem c_Ln_next (l : Launch) (G : GG) {g : GH} {la ta ls le s e wf wl : Nat} {tb : Nat} {tx : List Nat} (h : Ln g la ta ls le s e wf wl) (hT : Lt G g ta 1 tb 2 2048 tx) (he : e ≤ le) (hle : le ≤ tx.length) : gMet l G y_Ln_next b_Ln_next 1 (some .boolean) (rmk 1 0 0 21) [.ref la] g (fun v g' => v = some (.int (nI (bn (decide (nxS tx le e < nxE tx le e))))) ∧ Ln g' la ta ls le (nxS tx le e) (nxE tx le e) wf wl ∧ gh_N [la] g g') := by
  refine gMet.of [some (.ref la)] (by decide +kernel) rfl (Nat.le_of_ble_eq_true rfl) rfl (fun X hK hI hE => ?_)
  obtain ⟨ht1, ht2⟩ := hT.len
  have loop2 : ∀ (m i : Nat) (g1 : GH), i + m = le → sc (fun i => !isSpc tx i) le i = nxE tx le e → Ln g1 la ta ls le (nxS tx le e) i wf wl → gh_N [la] g g1 → gh_W l G (rmk 1 0 0 21) X g1 0 0 [some (.ref la)] 56 [] := by
    have fin : ∀ (g1 : GH), Ln g1 la ta ls le (nxS tx le e) (nxE tx le e) wf wl → gh_N [la] g g1 → gh_W l G (rmk 1 0 0 21) X g1 0 0 [some (.ref la)] 96 [] := by
      intro g1 h1 hN
      obtain ⟨b1, b2⟩ := nxS_le (tx := tx) he
      obtain ⟨b3, b4⟩ := nxE_le (tx := tx) he
      refine gh_aload_n hK d_Ln_next_96 rfl ?_
      refine gh_get hK d_Ln_next_97 in_Ln rfl h1 3 (by decide) kf_Ln_22 rfl rfl ?_
      refine gh_aload_n hK d_Ln_next_100 rfl ?_
      refine gh_get hK d_Ln_next_101 in_Ln rfl h1 4 (by decide) kf_Ln_25 rfl rfl ?_
      refine gh_icmp_geN hK d_Ln_next_104 (tgt := 111) (by decide) (by omega) (by omega) (fun z => ?_) (fun z => ?_)
      · refine gh_iconst (v := nI 0) hK d_Ln_next_111 (by decide) ?_
        exact gh_zret rfl hK hE d_Ln_next_112 (Nat.le_of_ble_eq_true rfl) (Nat.le_of_ble_eq_true rfl) ⟨by rw [decide_eq_false (by omega)]; rfl, h1, hN⟩
      · refine gh_iconst (v := nI 1) hK d_Ln_next_107 (by decide) ?_
        refine gh_goto (tgt := 112) hK d_Ln_next_108 (by decide) ?_
        exact gh_zret rfl hK hE d_Ln_next_112 (Nat.le_of_ble_eq_true rfl) (Nat.le_of_ble_eq_true rfl) ⟨by rw [decide_eq_true z]; rfl, h1, hN⟩
    intro m
    induction m with
    | zero =>
      intro i g1 hi hs h1 hN
      obtain rfl : i = le := by omega
      rw [sc_out (Nat.le_refl _)] at hs
      refine gh_aload_n hK d_Ln_next_56 rfl ?_
      refine gh_get hK d_Ln_next_57 in_Ln rfl h1 4 (by decide) kf_Ln_25 rfl rfl ?_
      refine gh_aload_n hK d_Ln_next_60 rfl ?_
      refine gh_get hK d_Ln_next_61 in_Ln rfl h1 2 (by decide) kf_Ln_19 rfl rfl ?_
      refine gh_icmp_geN hK d_Ln_next_64 (tgt := 96) (by decide) (by omega) (by omega) (fun z => ?_) (fun z => absurd z (by omega))
      exact fin g1 (by rw [← hs]; exact h1) hN
    | succ m ih =>
      intro i g1 hi hs h1 hN
      have hT1 := h.T hT hN
      refine gh_aload_n hK d_Ln_next_56 rfl ?_
      refine gh_get hK d_Ln_next_57 in_Ln rfl h1 4 (by decide) kf_Ln_25 rfl rfl ?_
      refine gh_aload_n hK d_Ln_next_60 rfl ?_
      refine gh_get hK d_Ln_next_61 in_Ln rfl h1 2 (by decide) kf_Ln_19 rfl rfl ?_
      refine gh_icmp_geN hK d_Ln_next_64 (tgt := 96) (by decide) (by omega) (by omega) (fun z => absurd z (by omega)) (fun z => ?_)
      refine gh_aload_n hK d_Ln_next_67 rfl ?_
      refine gh_get hK d_Ln_next_68 in_Ln rfl h1 0 (by decide) kf_Ln_9 rfl rfl ?_
      refine gh_aload_n hK d_Ln_next_71 rfl ?_
      refine gh_get hK d_Ln_next_72 in_Ln rfl h1 4 (by decide) kf_Ln_25 rfl rfl ?_
      refine gh_callV (rest := []) [.int (nI i)] hK (c_Lt_at l G hT1 (j := i) (by omega)) Y_Lt_at V_Lt_at km_Ln_28 hT1.ob rfl rfl d_Ln_next_75 rfl rfl (Nat.le_of_ble_eq_true rfl) ⟨(Nat.le_of_ble_eq_true rfl), (Nat.le_of_ble_eq_true rfl)⟩ ⟨(Nat.le_of_ble_eq_true rfl), (Nat.le_of_ble_eq_true rfl)⟩ (fun v g' hp => ?_)
      rw [hp.1, hp.2]
      show gh_W l G _ X g1 _ _ [some (.ref la)] 78 [.int (nI (tx.getD i 0))]
      refine gh_bipush (v := nI 32) hK d_Ln_next_78 (by decide) ?_
      have hch := hT1.getD i
      refine gh_icmp_eqN hK d_Ln_next_80 (tgt := 96) (by decide) (by omega) (by omega) (fun z2 => ?_) (fun z2 => ?_)
      · refine fin g1 ?_ hN
        rw [← hs, sc_no (by simp only [isSpc, decide_eq_true z2]; decide)]
        exact h1
      · refine gh_aload_n hK d_Ln_next_83 rfl ?_
        refine gh_dup hK d_Ln_next_84 rfl ?_
        refine gh_get hK d_Ln_next_85 in_Ln rfl h1 4 (by decide) kf_Ln_25 rfl rfl ?_
        refine gh_iconst (v := nI 1) hK d_Ln_next_88 (by decide) ?_
        refine gh_addN hK d_Ln_next_89 ?_
        refine gh_put hK d_Ln_next_90 in_Ln t_Ln ty_Ln nm_Ln rfl h1 4 (by decide) kf_Ln_25 rfl rfl rfl rfl (Nat.le_of_ble_eq_true rfl) rfl ?_
        refine gh_goto (tgt := 56) hK d_Ln_next_93 (by decide) ?_
        refine ih (i + 1) _ (by omega) ?_ gh_us (hN.tr (gh_N.up (by simp)))
        rw [← hs, sc_yes (i := i) (by omega) (by simp only [isSpc, decide_eq_false z2]; decide)]
  have loop1 : ∀ (m i : Nat) (g1 : GH) (e1 : Nat), i + m = le → sc (isSpc tx) le i = nxS tx le e → Ln g1 la ta ls le i e1 wf wl → gh_N [la] g g1 → gh_W l G (rmk 1 0 0 21) X g1 0 0 [some (.ref la)] 8 [] := by
    have mid : ∀ (i : Nat) (g1 : GH) (e1 : Nat), i = nxS tx le e → Ln g1 la ta ls le i e1 wf wl → gh_N [la] g g1 → gh_W l G (rmk 1 0 0 21) X g1 0 0 [some (.ref la)] 48 [] := by
      intro i g1 e1 hi h1 hN
      have hb := (nxS_le (tx := tx) he).2
      refine gh_aload_n hK d_Ln_next_48 rfl ?_
      refine gh_aload_n hK d_Ln_next_49 rfl ?_
      refine gh_get hK d_Ln_next_50 in_Ln rfl h1 3 (by decide) kf_Ln_22 rfl rfl ?_
      refine gh_put hK d_Ln_next_53 in_Ln t_Ln ty_Ln nm_Ln rfl h1 4 (by decide) kf_Ln_25 rfl rfl rfl rfl (Nat.le_of_ble_eq_true rfl) rfl ?_
      exact loop2 (le - i) i _ (by omega) (by rw [hi]; rfl) (by rw [hi]; exact gh_us) (hN.tr (gh_N.up (by simp)))
    intro m
    induction m with
    | zero =>
      intro i g1 e1 hi hs h1 hN
      obtain rfl : i = le := by omega
      rw [sc_out (Nat.le_refl _)] at hs
      refine gh_aload_n hK d_Ln_next_8 rfl ?_
      refine gh_get hK d_Ln_next_9 in_Ln rfl h1 3 (by decide) kf_Ln_22 rfl rfl ?_
      refine gh_aload_n hK d_Ln_next_12 rfl ?_
      refine gh_get hK d_Ln_next_13 in_Ln rfl h1 2 (by decide) kf_Ln_19 rfl rfl ?_
      refine gh_icmp_geN hK d_Ln_next_16 (tgt := 48) (by decide) (by omega) (by omega) (fun z => ?_) (fun z => absurd z (by omega))
      exact mid i g1 e1 hs h1 hN
    | succ m ih =>
      intro i g1 e1 hi hs h1 hN
      have hT1 := h.T hT hN
      refine gh_aload_n hK d_Ln_next_8 rfl ?_
      refine gh_get hK d_Ln_next_9 in_Ln rfl h1 3 (by decide) kf_Ln_22 rfl rfl ?_
      refine gh_aload_n hK d_Ln_next_12 rfl ?_
      refine gh_get hK d_Ln_next_13 in_Ln rfl h1 2 (by decide) kf_Ln_19 rfl rfl ?_
      refine gh_icmp_geN hK d_Ln_next_16 (tgt := 48) (by decide) (by omega) (by omega) (fun z => absurd z (by omega)) (fun z => ?_)
      refine gh_aload_n hK d_Ln_next_19 rfl ?_
      refine gh_get hK d_Ln_next_20 in_Ln rfl h1 0 (by decide) kf_Ln_9 rfl rfl ?_
      refine gh_aload_n hK d_Ln_next_23 rfl ?_
      refine gh_get hK d_Ln_next_24 in_Ln rfl h1 3 (by decide) kf_Ln_22 rfl rfl ?_
      refine gh_callV (rest := []) [.int (nI i)] hK (c_Lt_at l G hT1 (j := i) (by omega)) Y_Lt_at V_Lt_at km_Ln_28 hT1.ob rfl rfl d_Ln_next_27 rfl rfl (Nat.le_of_ble_eq_true rfl) ⟨(Nat.le_of_ble_eq_true rfl), (Nat.le_of_ble_eq_true rfl)⟩ ⟨(Nat.le_of_ble_eq_true rfl), (Nat.le_of_ble_eq_true rfl)⟩ (fun v g' hp => ?_)
      rw [hp.1, hp.2]
      show gh_W l G _ X g1 _ _ [some (.ref la)] 30 [.int (nI (tx.getD i 0))]
      refine gh_bipush (v := nI 32) hK d_Ln_next_30 (by decide) ?_
      have hch := hT1.getD i
      refine gh_icmp_neN hK d_Ln_next_32 (tgt := 48) (by decide) (by omega) (by omega) (fun z2 => ?_) (fun z2 => ?_)
      · exact mid i g1 e1 (by rw [← hs, sc_no (by simp only [isSpc, decide_eq_false z2]; decide)]) h1 hN
      · refine gh_aload_n hK d_Ln_next_35 rfl ?_
        refine gh_dup hK d_Ln_next_36 rfl ?_
        refine gh_get hK d_Ln_next_37 in_Ln rfl h1 3 (by decide) kf_Ln_22 rfl rfl ?_
        refine gh_iconst (v := nI 1) hK d_Ln_next_40 (by decide) ?_
        refine gh_addN hK d_Ln_next_41 ?_
        refine gh_put hK d_Ln_next_42 in_Ln t_Ln ty_Ln nm_Ln rfl h1 3 (by decide) kf_Ln_22 rfl rfl rfl rfl (Nat.le_of_ble_eq_true rfl) rfl ?_
        refine gh_goto (tgt := 8) hK d_Ln_next_45 (by decide) ?_
        refine ih (i + 1) _ e1 (by omega) ?_ gh_us (hN.tr (gh_N.up (by simp)))
        rw [← hs, sc_yes (i := i) (by omega) (by simp only [isSpc, decide_eq_true z2])]
  refine gh_aload_n hK d_Ln_next_0 rfl ?_
  refine gh_aload_n hK d_Ln_next_1 rfl ?_
  refine gh_get hK d_Ln_next_2 in_Ln rfl h 4 (by decide) kf_Ln_25 rfl rfl ?_
  refine gh_put hK d_Ln_next_5 in_Ln t_Ln ty_Ln nm_Ln rfl h 3 (by decide) kf_Ln_22 rfl rfl rfl rfl (Nat.le_of_ble_eq_true rfl) rfl ?_
  exact loop1 (le - e) e _ e (by omega) rfl gh_us (gh_N.up (by simp))
set_option maxRecDepth 20000 in
set_option maxHeartbeats 4000000 in
theorem c_Ln_ends (l : Launch) (G : GG) {g : GH} {la ta ls le s e wf wl : Nat} {tb : Nat} {tx : List Nat} (h : Ln g la ta ls le s e wf wl) (hT : Lt G g ta 1 tb 2 2048 tx) (he : e ≤ le) (hle : le ≤ tx.length) : gMet l G y_Ln_ends b_Ln_ends 1 (some .boolean) (rmk 2 0 0 41) [.ref la] g (fun v g' => v = some (.int (nI (bn (decide (nxE tx le e ≤ nxS tx le e))))) ∧ Ln g' la ta ls le (nxS tx le e) (nxE tx le e) wf wl ∧ gh_N [la] g g') := by
  refine gMet.of [some (.ref la)] (by decide +kernel) rfl (Nat.le_of_ble_eq_true rfl) rfl (fun X hK hI hE => ?_)
  refine gh_aload_n hK d_Ln_ends_0 rfl ?_
  refine gh_callV (rest := []) [] hK (c_Ln_next l G h hT he hle) Y_Ln_next V_Ln_next km_Ln_34 h rfl rfl d_Ln_ends_1 rfl rfl (Nat.le_of_ble_eq_true rfl) ⟨(Nat.le_of_ble_eq_true rfl), (Nat.le_of_ble_eq_true rfl)⟩ ⟨(Nat.le_of_ble_eq_true rfl), (Nat.le_of_ble_eq_true rfl)⟩ (fun v g1 hp => ?_)
  obtain ⟨rfl, hp1, hpN⟩ := hp
  show gh_W l G _ X g1 _ _ [some (.ref la)] 4 [.int (nI (bn (decide (nxS tx le e < nxE tx le e))))]
  refine gh_if_neB hK d_Ln_ends_4 (tgt := 11) (by decide) (fun z => ?_) (fun z => ?_)
  · refine gh_iconst (v := nI 0) hK d_Ln_ends_11 (by decide) ?_
    exact gh_zret rfl hK hE d_Ln_ends_12 (Nat.le_of_ble_eq_true rfl) (Nat.le_of_ble_eq_true rfl) ⟨by rw [decide_eq_false (by have := of_decide_eq_true z; omega)]; rfl, hp1, hpN⟩
  · refine gh_iconst (v := nI 1) hK d_Ln_ends_7 (by decide) ?_
    refine gh_goto (tgt := 12) hK d_Ln_ends_8 (by decide) ?_
    exact gh_zret rfl hK hE d_Ln_ends_12 (Nat.le_of_ble_eq_true rfl) (Nat.le_of_ble_eq_true rfl) ⟨by rw [decide_eq_true (by have := of_decide_eq_false z; omega)]; rfl, hp1, hpN⟩
set_option maxRecDepth 20000 in
set_option maxHeartbeats 4000000 in
theorem c_Ln_isLetter (l : Launch) (G : GG) {g : GH} {c : Nat} (hc : c < 65536) : gMet l G y_Ln_isLetter b_Ln_isLetter 1 (some .boolean) (rmk 0 0 0 0) [.int (nI c)] g (fun v g' => v = some (.int (nI (bn (isLet c)))) ∧ g' = g) := by
  refine gMet.of [some (.int (nI c))] (by decide +kernel) rfl (Nat.le_of_ble_eq_true rfl) rfl (fun X hK hI hE => ?_)
  refine gh_iload_n hK d_Ln_isLetter_0 rfl ?_
  refine gh_bipush (v := nI 97) hK d_Ln_isLetter_1 (by decide) ?_
  refine gh_icmp_ltN hK d_Ln_isLetter_3 (tgt := 16) (by decide) (by omega) (by decide) (fun z => ?_) (fun z => ?_)
  · refine gh_iconst (v := nI 0) hK d_Ln_isLetter_16 (by decide) ?_
    exact gh_zret rfl hK hE d_Ln_isLetter_17 (Nat.le_of_ble_eq_true rfl) (Nat.le_of_ble_eq_true rfl) ⟨by rw [show isLet c = false from decide_eq_false (by omega)]; rfl, rfl⟩
  · refine gh_iload_n hK d_Ln_isLetter_6 rfl ?_
    refine gh_bipush (v := nI 122) hK d_Ln_isLetter_7 (by decide) ?_
    refine gh_icmp_gtN hK d_Ln_isLetter_9 (tgt := 16) (by decide) (by omega) (by decide) (fun z2 => ?_) (fun z2 => ?_)
    · refine gh_iconst (v := nI 0) hK d_Ln_isLetter_16 (by decide) ?_
      exact gh_zret rfl hK hE d_Ln_isLetter_17 (Nat.le_of_ble_eq_true rfl) (Nat.le_of_ble_eq_true rfl) ⟨by rw [show isLet c = false from decide_eq_false (by omega)]; rfl, rfl⟩
    · refine gh_iconst (v := nI 1) hK d_Ln_isLetter_12 (by decide) ?_
      refine gh_goto (tgt := 17) hK d_Ln_isLetter_13 (by decide) ?_
      exact gh_zret rfl hK hE d_Ln_isLetter_17 (Nat.le_of_ble_eq_true rfl) (Nat.le_of_ble_eq_true rfl) ⟨by rw [show isLet c = true from decide_eq_true (by omega)]; rfl, rfl⟩
/-- the letters at the front of a piece -/
def ldL (tx : List Nat) (e s : Nat) : Nat := sc (fun i => isLet (tx.getD i 0)) e s
set_option maxRecDepth 20000 in
set_option maxHeartbeats 4000000 in
theorem c_Ln_leadingLetters (l : Launch) (G : GG) {g : GH} {la ta ls le s e wf wl : Nat} {tb : Nat} {tx : List Nat} (h : Ln g la ta ls le s e wf wl) (hT : Lt G g ta 1 tb 2 2048 tx) (hse : s ≤ e) (he : e ≤ tx.length) : gMet l G y_Ln_leadingLetters b_Ln_leadingLetters 2 (some .int) (rmk 1 0 0 21) [.ref la] g (fun v g' => v = some (.int (nI (ldL tx e s - s))) ∧ g' = g) := by
  refine gMet.of [some (.ref la), none] (by decide +kernel) rfl (Nat.le_of_ble_eq_true rfl) rfl (fun X hK hI hE => ?_)
  obtain ⟨ht1, ht2⟩ := hT.len
  have hb1 : s ≤ ldL tx e s := sc_ge _ _ _
  have hb2 : ldL tx e s ≤ e := sc_le hse
  have fin : gh_W l G (rmk 1 0 0 21) X g 0 0 [some (.ref la), some (.int (nI (ldL tx e s)))] 33 [] := by
    refine gh_iload_n hK d_Ln_leadingLetters_33 rfl ?_
    refine gh_aload_n hK d_Ln_leadingLetters_34 rfl ?_
    refine gh_get hK d_Ln_leadingLetters_35 in_Ln rfl h 3 (by decide) kf_Ln_22 rfl rfl ?_
    refine gh_subN hK d_Ln_leadingLetters_38 (by omega) ?_
    exact gh_iret hK hE d_Ln_leadingLetters_39 (Nat.le_of_ble_eq_true rfl) (Nat.le_of_ble_eq_true rfl) ⟨rfl, rfl⟩
  have loop : ∀ (m i : Nat), i + m = e → sc (fun i => isLet (tx.getD i 0)) e i = ldL tx e s → gh_W l G (rmk 1 0 0 21) X g 0 0 [some (.ref la), some (.int (nI i))] 5 [] := by
    intro m
    induction m with
    | zero =>
      intro i hi hs
      obtain rfl : i = e := by omega
      rw [sc_out (Nat.le_refl _)] at hs
      refine gh_iload_n hK d_Ln_leadingLetters_5 rfl ?_
      refine gh_aload_n hK d_Ln_leadingLetters_6 rfl ?_
      refine gh_get hK d_Ln_leadingLetters_7 in_Ln rfl h 4 (by decide) kf_Ln_25 rfl rfl ?_
      refine gh_icmp_geN hK d_Ln_leadingLetters_10 (tgt := 33) (by decide) (by omega) (by omega) (fun z => ?_) (fun z => absurd z (by omega))
      rw [← hs] at fin
      exact fin
    | succ m ih =>
      intro i hi hs
      refine gh_iload_n hK d_Ln_leadingLetters_5 rfl ?_
      refine gh_aload_n hK d_Ln_leadingLetters_6 rfl ?_
      refine gh_get hK d_Ln_leadingLetters_7 in_Ln rfl h 4 (by decide) kf_Ln_25 rfl rfl ?_
      refine gh_icmp_geN hK d_Ln_leadingLetters_10 (tgt := 33) (by decide) (by omega) (by omega) (fun z => absurd z (by omega)) (fun z => ?_)
      refine gh_aload_n hK d_Ln_leadingLetters_13 rfl ?_
      refine gh_get hK d_Ln_leadingLetters_14 in_Ln rfl h 0 (by decide) kf_Ln_9 rfl rfl ?_
      refine gh_iload_n hK d_Ln_leadingLetters_17 rfl ?_
      refine gh_callV (rest := []) [.int (nI i)] hK (c_Lt_at l G hT (j := i) (by omega)) Y_Lt_at V_Lt_at km_Ln_28 hT.ob rfl rfl d_Ln_leadingLetters_18 rfl rfl (Nat.le_of_ble_eq_true rfl) ⟨(Nat.le_of_ble_eq_true rfl), (Nat.le_of_ble_eq_true rfl)⟩ ⟨(Nat.le_of_ble_eq_true rfl), (Nat.le_of_ble_eq_true rfl)⟩ (fun v g' hp => ?_)
      rw [hp.1, hp.2]
      show gh_W l G _ X g _ _ [some (.ref la), some (.int (nI i))] 21 [.int (nI (tx.getD i 0))]
      refine gh_callS (rest := []) [.int (nI (tx.getD i 0))] hK (c_Ln_isLetter l G (g := g) (hT.getD i)) Y_Ln_isLetter V_Ln_isLetter km_Ln_53 rfl d_Ln_leadingLetters_21 rfl rfl (Nat.le_of_ble_eq_true rfl) ⟨(Nat.le_of_ble_eq_true rfl), (Nat.le_of_ble_eq_true rfl)⟩ ⟨(Nat.le_of_ble_eq_true rfl), (Nat.le_of_ble_eq_true rfl)⟩ (fun v g' hp => ?_)
      rw [hp.1, hp.2]
      show gh_W l G _ X g _ _ [some (.ref la), some (.int (nI i))] 24 [.int (nI (bn (isLet (tx.getD i 0))))]
      refine gh_if_eqB hK d_Ln_leadingLetters_24 (tgt := 33) (by decide) (fun z2 => ?_) (fun z2 => ?_)
      · rw [sc_no (by show ¬ isLet (tx.getD i 0) = true; rw [z2]; decide)] at hs
        rw [← hs] at fin
        exact fin
      · refine gh_incN (lv' := [some (.ref la), some (.int (nI (i + 1)))]) hK d_Ln_leadingLetters_27 rfl rfl ?_
        refine gh_goto (tgt := 5) hK d_Ln_leadingLetters_30 (by decide) ?_
        exact ih (i + 1) (by omega) (by rw [← hs]; exact (sc_yes (i := i) (by omega) z2).symm)
  refine gh_aload_n hK d_Ln_leadingLetters_0 rfl ?_
  refine gh_get hK d_Ln_leadingLetters_1 in_Ln rfl h 3 (by decide) kf_Ln_22 rfl rfl ?_
  refine gh_istore_n (lv' := [some (.ref la), some (.int (nI s))]) hK d_Ln_leadingLetters_4 (Nat.le_of_ble_eq_true rfl) rfl ?_
  exact loop (e - s) s (by omega) rfl
end
section
/-! flags as bits -/
theorem nI_and (a b : Nat) : nI a &&& nI b = nI (a &&& b) := by
  apply Int32.toBitVec.inj
  rw [Int32.toBitVec_and]
  show BitVec.ofNat 32 a &&& BitVec.ofNat 32 b = BitVec.ofNat 32 (a &&& b)
  apply BitVec.eq_of_toNat_eq
  simp [BitVec.toNat_and, Nat.and_mod_two_pow]
theorem nI_or (a b : Nat) : nI a ||| nI b = nI (a ||| b) := by
  apply Int32.toBitVec.inj
  rw [Int32.toBitVec_or]
  show BitVec.ofNat 32 a ||| BitVec.ofNat 32 b = BitVec.ofNat 32 (a ||| b)
  apply BitVec.eq_of_toNat_eq
  simp [BitVec.toNat_or, Nat.or_mod_two_pow]
theorem shl1 : ∀ k, k < 26 → nI 1 <<< (nI k &&& 31) = nI (2 ^ k) := by decide +kernel
theorem p2_26 {k : Nat} (h : k < 26) : 2 ^ k < 2 ^ 26 := Nat.pow_lt_pow_right (by omega) h
theorem and_p2 (m k : Nat) : m &&& 2 ^ k = 0 ↔ m.testBit k = false := by
  constructor
  · intro h
    have h1 : (m &&& 2 ^ k).testBit k = m.testBit k := by rw [Nat.testBit_and, Nat.testBit_two_pow_self, Bool.and_true]
    rw [← h1, h, Nat.zero_testBit]
  · intro h
    apply Nat.eq_of_testBit_eq
    intro i
    rw [Nat.testBit_and, Nat.testBit_two_pow, Nat.zero_testBit]
    by_cases e : k = i
    · subst e; rw [h]; rfl
    · rw [decide_eq_false e, Bool.and_false]
/-- the flag of a capital -/
def capB (c : Nat) : Nat := if isCap c = true then 2 ^ (c - 65) else 0
def fgF (tx : List Nat) : Nat → Nat → Nat → Option Nat
  | 0, _, m => some m
  | f + 1, i, m => if isCap (tx.getD i 0) = true ∧ m.testBit (tx.getD i 0 - 65) = false then fgF tx f (i + 1) (m ||| 2 ^ (tx.getD i 0 - 65)) else none
/-- the flags behind the letters, which end at sl -/
def flB (tx : List Nat) (e sl : Nat) : Option Nat := if sl = e then some 0 else if tx.getD sl 0 = 47 ∧ sl + 1 ≠ e then fgF tx (e - (sl + 1)) (sl + 1) 0 else none
def flV (o : Option Nat) : Int32 := match o with
  | some m => nI m
  | none => -1
theorem capB_lt (c : Nat) : capB c < 2 ^ 26 := by
  unfold capB
  split
  · next h =>
    have := of_decide_eq_true h
    exact p2_26 (by omega)
  · exact Nat.pow_pos (by omega)
theorem fgF_lt (tx : List Nat) : ∀ (f i m r : Nat), m < 2 ^ 26 → fgF tx f i m = some r → r < 2 ^ 26
  | 0, i, m, r, h, e => by cases e; exact h
  | f + 1, i, m, r, h, e => by
    rw [fgF] at e
    split at e
    · next hc =>
      have := of_decide_eq_true hc.1
      exact fgF_lt tx f (i + 1) _ r (Nat.or_lt_two_pow h (p2_26 (by omega))) e
    · cases e
theorem flB_lt {tx : List Nat} {e sl r : Nat} (h : flB tx e sl = some r) : r < 2 ^ 26 := by
  unfold flB at h
  split at h
  · cases h; exact Nat.pow_pos (by omega)
  · split at h
    · exact fgF_lt tx _ _ _ r (Nat.pow_pos (by omega)) h
    · cases h
/-- a piece that is the text w -/
def pcI (tx : List Nat) (s e : Nat) (w : List Nat) : Bool := decide ((tx.drop s).take (e - s) = w)
theorem pcI_len {tx : List Nat} {s e : Nat} {w : List Nat} (h : s ≤ e) (he : e ≤ tx.length) (hn : e - s ≠ w.length) : pcI tx s e w = false := decide_eq_false fun z => hn (by rw [← z, slice_len (by omega)])
/-- a part of a rule: letters, or points too -/
def ptL (tx : List Nat) (b : Bool) (i : Nat) : Bool := isLet (tx.getD i 0) || (b && decide (tx.getD i 0 = 46))
def ptO (tx : List Nat) (b : Bool) (s e : Nat) : Bool := decide (s < e) && (pcI tx s e [48] || (decide (sc (ptL tx b) e s = e) && decide (e - s ≤ 6)))
set_option maxRecDepth 20000 in
set_option maxHeartbeats 4000000 in
theorem c_Ln_is (l : Launch) (G : GG) {g : GH} {la ta ls le s e wf wl : Nat} {tb : Nat} {tx : List Nat} {i : Nat} (h : Ln g la ta ls le s e wf wl) (hT : Lt G g ta 1 tb 2 2048 tx) (hse : s ≤ e) (he : e ≤ tx.length) (hi : i < st_N) : gMet l G y_Ln_is b_Ln_is 3 (some .boolean) (rmk 4 0 0 85) [.ref la, .ref (G.2.2.1 i)] g (fun v g' => v = some (.int (nI (bn (pcI tx s e (st_txt.getD i []))))) ∧ g' = g) := by
  refine gMet.of [some (.ref la), some (.ref (G.2.2.1 i)), none] (by decide +kernel) rfl (Nat.le_of_ble_eq_true rfl) rfl (fun X hK hI hE => ?_)
  obtain ⟨ht1, ht2⟩ := hT.len
  obtain ⟨e1, e2, e3⟩ := st_all i hi
  have loop : ∀ (m j : Nat), e - s = (st_txt.getD i []).length → j + m = e - s → (tx.drop s).take j = (st_txt.getD i []).take j → gh_W l G (rmk 4 0 0 85) X g 0 0 [some (.ref la), some (.ref (G.2.2.1 i)), some (.int (nI j))] 20 [] := by
    intro m
    induction m with
    | zero =>
      intro j hl hj hq
      refine gh_iload_n hK d_Ln_is_20 rfl ?_
      refine gh_aload_n hK d_Ln_is_21 rfl ?_
      refine gh_callVs (i := i) (rest := [.int (nI j)]) [] hK (c_Str_length l G (g := g) hi) Y_Str_length V_Str_length km_Ln_44 hi rfl rfl d_Ln_is_22 rfl rfl (Nat.le_of_ble_eq_true rfl) ⟨(Nat.le_of_ble_eq_true rfl), (Nat.le_of_ble_eq_true rfl)⟩ ⟨(Nat.le_of_ble_eq_true rfl), (Nat.le_of_ble_eq_true rfl)⟩ (fun v g' hp => ?_)
      rw [hp.1, hp.2]
      show gh_W l G _ X g 0 0 [some (.ref la), some (.ref (G.2.2.1 i)), some (.int (nI j))] 25 [.int (nI ((st_txt.getD i []).length)), .int (nI j)]
      refine gh_icmp_geN hK d_Ln_is_25 (tgt := 57) (by decide) (by omega) (by omega) (fun z => ?_) (fun z => absurd z (by omega))
      refine gh_iconst (v := nI 1) hK d_Ln_is_57 (by decide) ?_
      refine gh_zret rfl hK hE d_Ln_is_58 (Nat.le_of_ble_eq_true rfl) (Nat.le_of_ble_eq_true rfl) ⟨?_, rfl⟩
      rw [show pcI tx s e (st_txt.getD i []) = true from decide_eq_true (by rw [show e - s = j by omega, hq, List.take_of_length_le (by omega)])]
      rfl
    | succ m ih =>
      intro j hl hj hq
      refine gh_iload_n hK d_Ln_is_20 rfl ?_
      refine gh_aload_n hK d_Ln_is_21 rfl ?_
      refine gh_callVs (i := i) (rest := [.int (nI j)]) [] hK (c_Str_length l G (g := g) hi) Y_Str_length V_Str_length km_Ln_44 hi rfl rfl d_Ln_is_22 rfl rfl (Nat.le_of_ble_eq_true rfl) ⟨(Nat.le_of_ble_eq_true rfl), (Nat.le_of_ble_eq_true rfl)⟩ ⟨(Nat.le_of_ble_eq_true rfl), (Nat.le_of_ble_eq_true rfl)⟩ (fun v g' hp => ?_)
      rw [hp.1, hp.2]
      show gh_W l G _ X g 0 0 [some (.ref la), some (.ref (G.2.2.1 i)), some (.int (nI j))] 25 [.int (nI ((st_txt.getD i []).length)), .int (nI j)]
      refine gh_icmp_geN hK d_Ln_is_25 (tgt := 57) (by decide) (by omega) (by omega) (fun z => absurd z (by omega)) (fun z => ?_)
      refine gh_aload_n hK d_Ln_is_28 rfl ?_
      refine gh_get hK d_Ln_is_29 in_Ln rfl h 0 (by decide) kf_Ln_9 rfl rfl ?_
      refine gh_aload_n hK d_Ln_is_32 rfl ?_
      refine gh_get hK d_Ln_is_33 in_Ln rfl h 3 (by decide) kf_Ln_22 rfl rfl ?_
      refine gh_iload_n hK d_Ln_is_36 rfl ?_
      refine gh_addN hK d_Ln_is_37 ?_
      refine gh_callV (rest := []) [.int (nI (s + j))] hK (c_Lt_at l G hT (j := s + j) (by omega)) Y_Lt_at V_Lt_at km_Ln_28 hT.ob rfl rfl d_Ln_is_38 rfl rfl (Nat.le_of_ble_eq_true rfl) ⟨(Nat.le_of_ble_eq_true rfl), (Nat.le_of_ble_eq_true rfl)⟩ ⟨(Nat.le_of_ble_eq_true rfl), (Nat.le_of_ble_eq_true rfl)⟩ (fun v g' hp => ?_)
      rw [hp.1, hp.2]
      show gh_W l G _ X g _ _ [some (.ref la), some (.ref (G.2.2.1 i)), some (.int (nI j))] 41 [.int (nI (tx.getD (s + j) 0))]
      refine gh_aload_n hK d_Ln_is_41 rfl ?_
      refine gh_iload_n hK d_Ln_is_42 rfl ?_
      refine gh_callVs (i := i) (rest := [.int (nI (tx.getD (s + j) 0))]) [.int (nI j)] hK (c_Str_charAt l G (g := g) hi (j := j) (by omega)) Y_Str_charAt V_Str_charAt km_Ln_50 hi rfl rfl d_Ln_is_43 rfl rfl (Nat.le_of_ble_eq_true rfl) ⟨(Nat.le_of_ble_eq_true rfl), (Nat.le_of_ble_eq_true rfl)⟩ ⟨(Nat.le_of_ble_eq_true rfl), (Nat.le_of_ble_eq_true rfl)⟩ (fun v g' hp => ?_)
      rw [hp.1, hp.2]
      show gh_W l G _ X g 0 0 [some (.ref la), some (.ref (G.2.2.1 i)), some (.int (nI j))] 46 [.int (nI ((st_txt.getD i []).getD j 0)), .int (nI (tx.getD (s + j) 0))]
      have hc1 := hT.getD (s + j)
      have hc2 := (e3 j (by omega)).2
      refine gh_icmp_eqN hK d_Ln_is_46 (tgt := 51) (by decide) (by omega) (by omega) (fun z2 => ?_) (fun z2 => ?_)
      · refine gh_incN (lv' := [some (.ref la), some (.ref (G.2.2.1 i)), some (.int (nI (j + 1)))]) hK d_Ln_is_51 rfl rfl ?_
        refine gh_goto (tgt := 20) hK d_Ln_is_54 (by decide) ?_
        exact ih (j + 1) hl (by omega) (by rw [slice_succ (by omega), take_succD (by omega), hq, z2])
      · refine gh_iconst (v := nI 0) hK d_Ln_is_49 (by decide) ?_
        refine gh_zret rfl hK hE d_Ln_is_50 (Nat.le_of_ble_eq_true rfl) (Nat.le_of_ble_eq_true rfl) ⟨?_, rfl⟩
        rw [show pcI tx s e (st_txt.getD i []) = false from decide_eq_false fun q => z2 (by rw [← q, slice_getD (by omega) (by omega)])]
        rfl
  refine gh_aload_n hK d_Ln_is_0 rfl ?_
  refine gh_get hK d_Ln_is_1 in_Ln rfl h 4 (by decide) kf_Ln_25 rfl rfl ?_
  refine gh_aload_n hK d_Ln_is_4 rfl ?_
  refine gh_get hK d_Ln_is_5 in_Ln rfl h 3 (by decide) kf_Ln_22 rfl rfl ?_
  refine gh_subN hK d_Ln_is_8 (by omega) ?_
  refine gh_aload_n hK d_Ln_is_9 rfl ?_
  refine gh_callVs (i := i) (rest := [.int (nI (e - s))]) [] hK (c_Str_length l G (g := g) hi) Y_Str_length V_Str_length km_Ln_44 hi rfl rfl d_Ln_is_10 rfl rfl (Nat.le_of_ble_eq_true rfl) ⟨(Nat.le_of_ble_eq_true rfl), (Nat.le_of_ble_eq_true rfl)⟩ ⟨(Nat.le_of_ble_eq_true rfl), (Nat.le_of_ble_eq_true rfl)⟩ (fun v g' hp => ?_)
  rw [hp.1, hp.2]
  show gh_W l G _ X g 0 0 [some (.ref la), some (.ref (G.2.2.1 i)), none] 13 [.int (nI ((st_txt.getD i []).length)), .int (nI (e - s))]
  refine gh_icmp_eqN hK d_Ln_is_13 (tgt := 18) (by decide) (by omega) (by omega) (fun z => ?_) (fun z => ?_)
  · refine gh_iconst (v := nI 0) hK d_Ln_is_18 (by decide) ?_
    refine gh_istore_n (lv' := [some (.ref la), some (.ref (G.2.2.1 i)), some (.int (nI 0))]) hK d_Ln_is_19 (Nat.le_of_ble_eq_true rfl) rfl ?_
    exact loop (e - s) 0 z (by omega) rfl
  · refine gh_iconst (v := nI 0) hK d_Ln_is_16 (by decide) ?_
    exact gh_zret rfl hK hE d_Ln_is_17 (Nat.le_of_ble_eq_true rfl) (Nat.le_of_ble_eq_true rfl) ⟨by rw [pcI_len hse he z]; rfl, rfl⟩
/-- the piece is a word of at most k letters -/
def wdO (tx : List Nat) (k s e : Nat) : Bool := decide (1 ≤ ldL tx e s - s ∧ ldL tx e s - s ≤ k ∧ ldL tx e s - s = e - s)
set_option maxRecDepth 20000 in
set_option maxHeartbeats 4000000 in
theorem c_Ln_isWord (l : Launch) (G : GG) {g : GH} {la ta ls le s e wf wl : Nat} {tb : Nat} {tx : List Nat} {k : Nat} (h : Ln g la ta ls le s e wf wl) (hT : Lt G g ta 1 tb 2 2048 tx) (hse : s ≤ e) (he : e ≤ tx.length) (hk : k < 2 ^ 31) : gMet l G y_Ln_isWord b_Ln_isWord 2 (some .boolean) (rmk 2 0 0 42) [.ref la, .int (nI k)] g (fun v g' => v = some (.int (nI (bn (wdO tx k s e)))) ∧ Ln g' la ta ls le s e s (ldL tx e s - s) ∧ gh_N [la] g g') := by
  refine gMet.of [some (.ref la), some (.int (nI k))] (by decide +kernel) rfl (Nat.le_of_ble_eq_true rfl) rfl (fun X hK hI hE => ?_)
  obtain ⟨ht1, ht2⟩ := hT.len
  have hb1 : s ≤ ldL tx e s := sc_ge _ _ _
  have hb2 : ldL tx e s ≤ e := sc_le hse
  refine gh_aload_n hK d_Ln_isWord_0 rfl ?_
  refine gh_aload_n hK d_Ln_isWord_1 rfl ?_
  refine gh_get hK d_Ln_isWord_2 in_Ln rfl h 3 (by decide) kf_Ln_22 rfl rfl ?_
  refine gh_put hK d_Ln_isWord_5 in_Ln t_Ln ty_Ln nm_Ln rfl h 5 (by decide) kf_Ln_38 rfl rfl rfl rfl (Nat.le_of_ble_eq_true rfl) rfl ?_
  refine gh_aload_n hK d_Ln_isWord_8 rfl ?_
  refine gh_aload_n hK d_Ln_isWord_9 rfl ?_
  have h1 : Ln (gh_up g la 3 (LnE ta ls le s e s wl)) la ta ls le s e s wl := gh_us
  have hT1 := h.T hT (gh_N.up (g := g) (t := 3) (e := LnE ta ls le s e s wl) (List.mem_singleton.mpr rfl))
  refine gh_callV (rest := [.ref la]) [] hK (c_Ln_leadingLetters l G h1 hT1 hse he) Y_Ln_leadingLetters V_Ln_leadingLetters km_Ln_57 h1 rfl rfl d_Ln_isWord_10 rfl rfl (Nat.le_of_ble_eq_true rfl) ⟨(Nat.le_of_ble_eq_true rfl), (Nat.le_of_ble_eq_true rfl)⟩ ⟨(Nat.le_of_ble_eq_true rfl), (Nat.le_of_ble_eq_true rfl)⟩ (fun v g' hp => ?_)
  rw [hp.1, hp.2]
  show gh_W l G _ X (gh_up g la 3 (LnE ta ls le s e s wl)) _ _ [some (.ref la), some (.int (nI k))] 13 [.int (nI (ldL tx e s - s)), .ref la]
  refine gh_put hK d_Ln_isWord_13 in_Ln t_Ln ty_Ln nm_Ln rfl gh_us 6 (by decide) kf_Ln_41 rfl rfl rfl rfl (Nat.le_of_ble_eq_true rfl) rfl ?_
  have hN : gh_N [la] g (gh_up (gh_up g la 3 (LnE ta ls le s e s wl)) la 3 (LnE ta ls le s e s (ldL tx e s - s))) := (gh_N.up (by simp)).tr (gh_N.up (by simp))
  refine gh_aload_n hK d_Ln_isWord_16 rfl ?_
  refine gh_get hK d_Ln_isWord_17 in_Ln rfl gh_us 6 (by decide) kf_Ln_41 rfl rfl ?_
  refine gh_iconst (v := nI 1) hK d_Ln_isWord_20 (by decide) ?_
  refine gh_icmp_ltN hK d_Ln_isWord_21 (tgt := 52) (by decide) (by omega) (by decide) (fun z => ?_) (fun z => ?_)
  · refine gh_iconst (v := nI 0) hK d_Ln_isWord_52 (by decide) ?_
    exact gh_zret rfl hK hE d_Ln_isWord_53 (Nat.le_of_ble_eq_true rfl) (Nat.le_of_ble_eq_true rfl) ⟨by rw [show wdO tx k s e = false from decide_eq_false (by omega)]; rfl, gh_us, hN⟩
  · refine gh_aload_n hK d_Ln_isWord_24 rfl ?_
    refine gh_get hK d_Ln_isWord_25 in_Ln rfl gh_us 6 (by decide) kf_Ln_41 rfl rfl ?_
    refine gh_iload_n hK d_Ln_isWord_28 rfl ?_
    refine gh_icmp_gtN hK d_Ln_isWord_29 (tgt := 52) (by decide) (by omega) hk (fun z2 => ?_) (fun z2 => ?_)
    · refine gh_iconst (v := nI 0) hK d_Ln_isWord_52 (by decide) ?_
      exact gh_zret rfl hK hE d_Ln_isWord_53 (Nat.le_of_ble_eq_true rfl) (Nat.le_of_ble_eq_true rfl) ⟨by rw [show wdO tx k s e = false from decide_eq_false (by omega)]; rfl, gh_us, hN⟩
    · refine gh_aload_n hK d_Ln_isWord_32 rfl ?_
      refine gh_get hK d_Ln_isWord_33 in_Ln rfl gh_us 6 (by decide) kf_Ln_41 rfl rfl ?_
      refine gh_aload_n hK d_Ln_isWord_36 rfl ?_
      refine gh_get hK d_Ln_isWord_37 in_Ln rfl gh_us 4 (by decide) kf_Ln_25 rfl rfl ?_
      refine gh_aload_n hK d_Ln_isWord_40 rfl ?_
      refine gh_get hK d_Ln_isWord_41 in_Ln rfl gh_us 3 (by decide) kf_Ln_22 rfl rfl ?_
      refine gh_subN hK d_Ln_isWord_44 (by omega) ?_
      refine gh_icmp_neN hK d_Ln_isWord_45 (tgt := 52) (by decide) (by omega) (by omega) (fun z3 => ?_) (fun z3 => ?_)
      · refine gh_iconst (v := nI 0) hK d_Ln_isWord_52 (by decide) ?_
        exact gh_zret rfl hK hE d_Ln_isWord_53 (Nat.le_of_ble_eq_true rfl) (Nat.le_of_ble_eq_true rfl) ⟨by rw [show wdO tx k s e = false from decide_eq_false (by omega)]; rfl, gh_us, hN⟩
      · refine gh_iconst (v := nI 1) hK d_Ln_isWord_48 (by decide) ?_
        refine gh_goto (tgt := 53) hK d_Ln_isWord_49 (by decide) ?_
        exact gh_zret rfl hK hE d_Ln_isWord_53 (Nat.le_of_ble_eq_true rfl) (Nat.le_of_ble_eq_true rfl) ⟨by rw [show wdO tx k s e = true from decide_eq_true ⟨by omega, by omega, z3⟩]; rfl, gh_us, hN⟩
/-- the word of a piece, kept -/
def wkF (tx : List Nat) (s e wf : Nat) : Nat := if s < e then s else wf
def wkL (tx : List Nat) (s e wl : Nat) : Nat := if s < e then ldL tx e s - s else wl
set_option maxRecDepth 20000 in
set_option maxHeartbeats 4000000 in
theorem c_Ln_nextIsWord (l : Launch) (G : GG) {g : GH} {la ta ls le s e wf wl : Nat} {tb : Nat} {tx : List Nat} {k : Nat} (h : Ln g la ta ls le s e wf wl) (hT : Lt G g ta 1 tb 2 2048 tx) (he : e ≤ le) (hle : le ≤ tx.length) (hk : k < 2 ^ 31) : gMet l G y_Ln_nextIsWord b_Ln_nextIsWord 2 (some .boolean) (rmk 3 0 0 63) [.ref la, .int (nI k)] g (fun v g' => v = some (.int (nI (bn (decide (nxS tx le e < nxE tx le e) && wdO tx k (nxS tx le e) (nxE tx le e))))) ∧ Ln g' la ta ls le (nxS tx le e) (nxE tx le e) (wkF tx (nxS tx le e) (nxE tx le e) wf) (wkL tx (nxS tx le e) (nxE tx le e) wl) ∧ gh_N [la] g g') := by
  refine gMet.of [some (.ref la), some (.int (nI k))] (by decide +kernel) rfl (Nat.le_of_ble_eq_true rfl) rfl (fun X hK hI hE => ?_)
  obtain ⟨b1, b2⟩ := nxS_le (tx := tx) he
  obtain ⟨b3, b4⟩ := nxE_le (tx := tx) he
  refine gh_aload_n hK d_Ln_nextIsWord_0 rfl ?_
  refine gh_callV (rest := []) [] hK (c_Ln_next l G h hT he hle) Y_Ln_next V_Ln_next km_Ln_34 h rfl rfl d_Ln_nextIsWord_1 rfl rfl (Nat.le_of_ble_eq_true rfl) ⟨(Nat.le_of_ble_eq_true rfl), (Nat.le_of_ble_eq_true rfl)⟩ ⟨(Nat.le_of_ble_eq_true rfl), (Nat.le_of_ble_eq_true rfl)⟩ (fun v g1 hp => ?_)
  obtain ⟨rfl, hp1, hpN⟩ := hp
  show gh_W l G _ X g1 _ _ [some (.ref la), some (.int (nI k))] 4 [.int (nI (bn (decide (nxS tx le e < nxE tx le e))))]
  refine gh_if_eqB hK d_Ln_nextIsWord_4 (tgt := 19) (by decide) (fun z => ?_) (fun z => ?_)
  · refine gh_iconst (v := nI 0) hK d_Ln_nextIsWord_19 (by decide) ?_
    have z1 : ¬ nxS tx le e < nxE tx le e := of_decide_eq_false z
    refine gh_zret rfl hK hE d_Ln_nextIsWord_20 (Nat.le_of_ble_eq_true rfl) (Nat.le_of_ble_eq_true rfl) ⟨by rw [z]; rfl, ?_, hpN⟩
    rw [wkF, wkL, if_neg z1, if_neg z1]
    exact hp1
  · refine gh_aload_n hK d_Ln_nextIsWord_7 rfl ?_
    refine gh_iload_n hK d_Ln_nextIsWord_8 rfl ?_
    have z1 : nxS tx le e < nxE tx le e := of_decide_eq_true z
    refine gh_callV (rest := []) [.int (nI k)] hK (c_Ln_isWord l G hp1 (h.T hT hpN) b3 (by omega) hk) Y_Ln_isWord V_Ln_isWord km_Ln_60 hp1 rfl rfl d_Ln_nextIsWord_9 rfl rfl (Nat.le_of_ble_eq_true rfl) ⟨(Nat.le_of_ble_eq_true rfl), (Nat.le_of_ble_eq_true rfl)⟩ ⟨(Nat.le_of_ble_eq_true rfl), (Nat.le_of_ble_eq_true rfl)⟩ (fun v g2 hp => ?_)
    obtain ⟨rfl, hp2, hpN2⟩ := hp
    show gh_W l G _ X g2 _ _ [some (.ref la), some (.int (nI k))] 12 [.int (nI (bn (wdO tx k (nxS tx le e) (nxE tx le e))))]
    refine gh_if_eqB hK d_Ln_nextIsWord_12 (tgt := 19) (by decide) (fun z2 => ?_) (fun z2 => ?_)
    · refine gh_iconst (v := nI 0) hK d_Ln_nextIsWord_19 (by decide) ?_
      refine gh_zret rfl hK hE d_Ln_nextIsWord_20 (Nat.le_of_ble_eq_true rfl) (Nat.le_of_ble_eq_true rfl) ⟨by rw [z, z2]; rfl, ?_, hpN.tr hpN2⟩
      rw [wkF, wkL, if_pos z1, if_pos z1]
      exact hp2
    · refine gh_iconst (v := nI 1) hK d_Ln_nextIsWord_15 (by decide) ?_
      refine gh_goto (tgt := 20) hK d_Ln_nextIsWord_16 (by decide) ?_
      refine gh_zret rfl hK hE d_Ln_nextIsWord_20 (Nat.le_of_ble_eq_true rfl) (Nat.le_of_ble_eq_true rfl) ⟨by rw [z, z2]; rfl, ?_, hpN.tr hpN2⟩
      rw [wkF, wkL, if_pos z1, if_pos z1]
      exact hp2
/-- what nextIsOnlyWord answers, and where the line then stands -/
def owO (tx : List Nat) (k le e : Nat) : Bool := (decide (nxS tx le e < nxE tx le e) && wdO tx k (nxS tx le e) (nxE tx le e)) && decide (nxE tx le (nxE tx le e) ≤ nxS tx le (nxE tx le e))
def owS (tx : List Nat) (k le e : Nat) : Nat := if (decide (nxS tx le e < nxE tx le e) && wdO tx k (nxS tx le e) (nxE tx le e)) = true then nxS tx le (nxE tx le e) else nxS tx le e
def owE (tx : List Nat) (k le e : Nat) : Nat := if (decide (nxS tx le e < nxE tx le e) && wdO tx k (nxS tx le e) (nxE tx le e)) = true then nxE tx le (nxE tx le e) else nxE tx le e
set_option maxRecDepth 20000 in
set_option maxHeartbeats 4000000 in
theorem c_Ln_nextIsOnlyWord (l : Launch) (G : GG) {g : GH} {la ta ls le s e wf wl : Nat} {tb : Nat} {tx : List Nat} {k : Nat} (h : Ln g la ta ls le s e wf wl) (hT : Lt G g ta 1 tb 2 2048 tx) (he : e ≤ le) (hle : le ≤ tx.length) (hk : k < 2 ^ 31) : gMet l G y_Ln_nextIsOnlyWord b_Ln_nextIsOnlyWord 2 (some .boolean) (rmk 3 0 0 63) [.ref la, .int (nI k)] g (fun v g' => v = some (.int (nI (bn (owO tx k le e)))) ∧ Ln g' la ta ls le (owS tx k le e) (owE tx k le e) (wkF tx (nxS tx le e) (nxE tx le e) wf) (wkL tx (nxS tx le e) (nxE tx le e) wl) ∧ gh_N [la] g g') := by
  refine gMet.of [some (.ref la), some (.int (nI k))] (by decide +kernel) rfl (Nat.le_of_ble_eq_true rfl) rfl (fun X hK hI hE => ?_)
  obtain ⟨b1, b2⟩ := nxS_le (tx := tx) he
  obtain ⟨b3, b4⟩ := nxE_le (tx := tx) he
  refine gh_aload_n hK d_Ln_nextIsOnlyWord_0 rfl ?_
  refine gh_callV (rest := []) [] hK (c_Ln_next l G h hT he hle) Y_Ln_next V_Ln_next km_Ln_34 h rfl rfl d_Ln_nextIsOnlyWord_1 rfl rfl (Nat.le_of_ble_eq_true rfl) ⟨(Nat.le_of_ble_eq_true rfl), (Nat.le_of_ble_eq_true rfl)⟩ ⟨(Nat.le_of_ble_eq_true rfl), (Nat.le_of_ble_eq_true rfl)⟩ (fun v g1 hp => ?_)
  obtain ⟨rfl, hp1, hpN⟩ := hp
  show gh_W l G _ X g1 _ _ [some (.ref la), some (.int (nI k))] 4 [.int (nI (bn (decide (nxS tx le e < nxE tx le e))))]
  refine gh_if_eqB hK d_Ln_nextIsOnlyWord_4 (tgt := 26) (by decide) (fun z => ?_) (fun z => ?_)
  · refine gh_iconst (v := nI 0) hK d_Ln_nextIsOnlyWord_26 (by decide) ?_
    have z1 : ¬ nxS tx le e < nxE tx le e := of_decide_eq_false z
    refine gh_zret rfl hK hE d_Ln_nextIsOnlyWord_27 (Nat.le_of_ble_eq_true rfl) (Nat.le_of_ble_eq_true rfl) ⟨by rw [owO, z]; rfl, ?_, hpN⟩
    rw [owS, owE, wkF, wkL, z, Bool.false_and, if_neg z1, if_neg z1]
    exact hp1
  · refine gh_aload_n hK d_Ln_nextIsOnlyWord_7 rfl ?_
    refine gh_iload_n hK d_Ln_nextIsOnlyWord_8 rfl ?_
    have z1 : nxS tx le e < nxE tx le e := of_decide_eq_true z
    have hT1 := h.T hT hpN
    refine gh_callV (rest := []) [.int (nI k)] hK (c_Ln_isWord l G hp1 hT1 b3 (by omega) hk) Y_Ln_isWord V_Ln_isWord km_Ln_60 hp1 rfl rfl d_Ln_nextIsOnlyWord_9 rfl rfl (Nat.le_of_ble_eq_true rfl) ⟨(Nat.le_of_ble_eq_true rfl), (Nat.le_of_ble_eq_true rfl)⟩ ⟨(Nat.le_of_ble_eq_true rfl), (Nat.le_of_ble_eq_true rfl)⟩ (fun v g2 hp => ?_)
    obtain ⟨rfl, hp2, hpN2⟩ := hp
    show gh_W l G _ X g2 _ _ [some (.ref la), some (.int (nI k))] 12 [.int (nI (bn (wdO tx k (nxS tx le e) (nxE tx le e))))]
    refine gh_if_eqB hK d_Ln_nextIsOnlyWord_12 (tgt := 26) (by decide) (fun z2 => ?_) (fun z2 => ?_)
    · refine gh_iconst (v := nI 0) hK d_Ln_nextIsOnlyWord_26 (by decide) ?_
      refine gh_zret rfl hK hE d_Ln_nextIsOnlyWord_27 (Nat.le_of_ble_eq_true rfl) (Nat.le_of_ble_eq_true rfl) ⟨by rw [owO, z, z2]; rfl, ?_, hpN.tr hpN2⟩
      rw [owS, owE, wkF, wkL, z, z2, if_pos z1, if_pos z1]
      exact hp2
    · refine gh_aload_n hK d_Ln_nextIsOnlyWord_15 rfl ?_
      refine gh_callV (rest := []) [] hK (c_Ln_ends l G hp2 (hp1.T hT1 hpN2) b4 hle) Y_Ln_ends V_Ln_ends km_Ln_64 hp2 rfl rfl d_Ln_nextIsOnlyWord_16 rfl rfl (Nat.le_of_ble_eq_true rfl) ⟨(Nat.le_of_ble_eq_true rfl), (Nat.le_of_ble_eq_true rfl)⟩ ⟨(Nat.le_of_ble_eq_true rfl), (Nat.le_of_ble_eq_true rfl)⟩ (fun v g3 hp => ?_)
      obtain ⟨rfl, hp3, hpN3⟩ := hp
      show gh_W l G _ X g3 _ _ [some (.ref la), some (.int (nI k))] 19 [.int (nI (bn (decide (nxE tx le (nxE tx le e) ≤ nxS tx le (nxE tx le e)))))]
      refine gh_if_eqB hK d_Ln_nextIsOnlyWord_19 (tgt := 26) (by decide) (fun z3 => ?_) (fun z3 => ?_)
      · refine gh_iconst (v := nI 0) hK d_Ln_nextIsOnlyWord_26 (by decide) ?_
        refine gh_zret rfl hK hE d_Ln_nextIsOnlyWord_27 (Nat.le_of_ble_eq_true rfl) (Nat.le_of_ble_eq_true rfl) ⟨by rw [owO, z, z2, z3]; rfl, ?_, (hpN.tr hpN2).tr hpN3⟩
        rw [owS, owE, wkF, wkL, z, z2, if_pos z1, if_pos z1]
        exact hp3
      · refine gh_iconst (v := nI 1) hK d_Ln_nextIsOnlyWord_22 (by decide) ?_
        refine gh_goto (tgt := 27) hK d_Ln_nextIsOnlyWord_23 (by decide) ?_
        refine gh_zret rfl hK hE d_Ln_nextIsOnlyWord_27 (Nat.le_of_ble_eq_true rfl) (Nat.le_of_ble_eq_true rfl) ⟨by rw [owO, z, z2, z3]; rfl, ?_, (hpN.tr hpN2).tr hpN3⟩
        rw [owS, owE, wkF, wkL, z, z2, if_pos z1, if_pos z1]
        exact hp3
set_option maxRecDepth 20000 in
set_option maxHeartbeats 4000000 in
theorem c_Ln_flagBit (l : Launch) (G : GG) {g : GH} {c : Nat} (hc : c < 65536) : gMet l G y_Ln_flagBit b_Ln_flagBit 1 (some .int) (rmk 0 0 0 0) [.int (nI c)] g (fun v g' => v = some (.int (nI (capB c))) ∧ g' = g) := by
  refine gMet.of [some (.int (nI c))] (by decide +kernel) rfl (Nat.le_of_ble_eq_true rfl) rfl (fun X hK hI hE => ?_)
  refine gh_iload_n hK d_Ln_flagBit_0 rfl ?_
  refine gh_bipush (v := nI 65) hK d_Ln_flagBit_1 (by decide) ?_
  refine gh_icmp_ltN hK d_Ln_flagBit_3 (tgt := 21) (by decide) (by omega) (by decide) (fun z => ?_) (fun z => ?_)
  · refine gh_iconst (v := nI 0) hK d_Ln_flagBit_21 (by decide) ?_
    exact gh_iret hK hE d_Ln_flagBit_22 (Nat.le_of_ble_eq_true rfl) (Nat.le_of_ble_eq_true rfl) ⟨by rw [capB, if_neg (by rw [show isCap c = false from decide_eq_false (by omega)]; decide)], rfl⟩
  · refine gh_iload_n hK d_Ln_flagBit_6 rfl ?_
    refine gh_bipush (v := nI 90) hK d_Ln_flagBit_7 (by decide) ?_
    refine gh_icmp_gtN hK d_Ln_flagBit_9 (tgt := 21) (by decide) (by omega) (by decide) (fun z2 => ?_) (fun z2 => ?_)
    · refine gh_iconst (v := nI 0) hK d_Ln_flagBit_21 (by decide) ?_
      exact gh_iret hK hE d_Ln_flagBit_22 (Nat.le_of_ble_eq_true rfl) (Nat.le_of_ble_eq_true rfl) ⟨by rw [capB, if_neg (by rw [show isCap c = false from decide_eq_false (by omega)]; decide)], rfl⟩
    · refine gh_iconst (v := nI 1) hK d_Ln_flagBit_12 (by decide) ?_
      refine gh_iload_n hK d_Ln_flagBit_13 rfl ?_
      refine gh_bipush (v := nI 65) hK d_Ln_flagBit_14 (by decide) ?_
      refine gh_subN hK d_Ln_flagBit_16 (by omega) ?_
      refine gh_ishl hK d_Ln_flagBit_17 ?_
      rw [shl1 (c - 65) (by omega)]
      refine gh_goto (tgt := 22) hK d_Ln_flagBit_18 (by decide) ?_
      exact gh_iret hK hE d_Ln_flagBit_22 (Nat.le_of_ble_eq_true rfl) (Nat.le_of_ble_eq_true rfl) ⟨by rw [capB, if_pos (show isCap c = true from decide_eq_true ⟨z, z2⟩)], rfl⟩
set_option maxRecDepth 20000 in
set_option maxHeartbeats 4000000 in
theorem c_Ln_flag (l : Launch) (G : GG) {g : GH} {la ta ls le s e wf wl : Nat} {tb : Nat} {tx : List Nat} (h : Ln g la ta ls le s e wf wl) (hT : Lt G g ta 1 tb 2 2048 tx) (hse : s ≤ e) (he : e ≤ tx.length) : gMet l G y_Ln_flag b_Ln_flag 1 (some .int) (rmk 1 0 0 21) [.ref la] g (fun v g' => v = some (.int (nI (if e - s = 1 then capB (tx.getD s 0) else 0))) ∧ g' = g) := by
  refine gMet.of [some (.ref la)] (by decide +kernel) rfl (Nat.le_of_ble_eq_true rfl) rfl (fun X hK hI hE => ?_)
  obtain ⟨ht1, ht2⟩ := hT.len
  refine gh_aload_n hK d_Ln_flag_0 rfl ?_
  refine gh_get hK d_Ln_flag_1 in_Ln rfl h 4 (by decide) kf_Ln_25 rfl rfl ?_
  refine gh_aload_n hK d_Ln_flag_4 rfl ?_
  refine gh_get hK d_Ln_flag_5 in_Ln rfl h 3 (by decide) kf_Ln_22 rfl rfl ?_
  refine gh_subN hK d_Ln_flag_8 (by omega) ?_
  refine gh_iconst (v := nI 1) hK d_Ln_flag_9 (by decide) ?_
  refine gh_icmp_neN hK d_Ln_flag_10 (tgt := 30) (by decide) (by omega) (by decide) (fun z => ?_) (fun z => ?_)
  · refine gh_iconst (v := nI 0) hK d_Ln_flag_30 (by decide) ?_
    exact gh_iret hK hE d_Ln_flag_31 (Nat.le_of_ble_eq_true rfl) (Nat.le_of_ble_eq_true rfl) ⟨by rw [if_neg z], rfl⟩
  · refine gh_aload_n hK d_Ln_flag_13 rfl ?_
    refine gh_get hK d_Ln_flag_14 in_Ln rfl h 0 (by decide) kf_Ln_9 rfl rfl ?_
    refine gh_aload_n hK d_Ln_flag_17 rfl ?_
    refine gh_get hK d_Ln_flag_18 in_Ln rfl h 3 (by decide) kf_Ln_22 rfl rfl ?_
    refine gh_callV (rest := []) [.int (nI s)] hK (c_Lt_at l G hT (j := s) (by omega)) Y_Lt_at V_Lt_at km_Ln_28 hT.ob rfl rfl d_Ln_flag_21 rfl rfl (Nat.le_of_ble_eq_true rfl) ⟨(Nat.le_of_ble_eq_true rfl), (Nat.le_of_ble_eq_true rfl)⟩ ⟨(Nat.le_of_ble_eq_true rfl), (Nat.le_of_ble_eq_true rfl)⟩ (fun v g' hp => ?_)
    rw [hp.1, hp.2]
    show gh_W l G _ X g _ _ [some (.ref la)] 24 [.int (nI (tx.getD s 0))]
    refine gh_callS (rest := []) [.int (nI (tx.getD s 0))] hK (c_Ln_flagBit l G (g := g) (hT.getD s)) Y_Ln_flagBit V_Ln_flagBit km_Ln_67 rfl d_Ln_flag_24 rfl rfl (Nat.le_of_ble_eq_true rfl) ⟨(Nat.le_of_ble_eq_true rfl), (Nat.le_of_ble_eq_true rfl)⟩ ⟨(Nat.le_of_ble_eq_true rfl), (Nat.le_of_ble_eq_true rfl)⟩ (fun v g' hp => ?_)
    rw [hp.1, hp.2]
    show gh_W l G _ X g _ _ [some (.ref la)] 27 [.int (nI (capB (tx.getD s 0)))]
    refine gh_goto (tgt := 31) hK d_Ln_flag_27 (by decide) ?_
    exact gh_iret hK hE d_Ln_flag_31 (Nat.le_of_ble_eq_true rfl) (Nat.le_of_ble_eq_true rfl) ⟨by rw [if_pos z], rfl⟩
end
section
set_option maxRecDepth 20000 in
set_option maxHeartbeats 4000000 in
theorem c_Ln_flagsBehind (l : Launch) (G : GG) {g : GH} {la ta ls le s e wf wl : Nat} {tb : Nat} {tx : List Nat} {k : Nat} (h : Ln g la ta ls le s e wf wl) (hT : Lt G g ta 1 tb 2 2048 tx) (hk : s + k ≤ e) (he : e ≤ tx.length) : gMet l G y_Ln_flagsBehind b_Ln_flagsBehind 6 (some .int) (rmk 1 0 0 21) [.ref la, .int (nI k)] g (fun v g' => v = some (.int (flV (flB tx e (s + k)))) ∧ g' = g) := by
  refine gMet.of [some (.ref la), some (.int (nI k)), none, none, none, none] (by decide +kernel) rfl (Nat.le_of_ble_eq_true rfl) rfl (fun X hK hI hE => ?_)
  obtain ⟨ht1, ht2⟩ := hT.len
  have loop : ∀ (m i x : Nat) (o5 : Option Value), i + m = e → x < 2 ^ 26 → fgF tx (e - i) i x = flB tx e (s + k) → gh_W l G (rmk 1 0 0 21) X g 0 0 [some (.ref la), some (.int (nI k)), some (.int (nI (s + k))), some (.int (nI x)), some (.int (nI i)), o5] 49 [] := by
    intro m
    induction m with
    | zero =>
      intro i x o5 hi hx hq
      obtain rfl : i = e := by omega
      rw [Nat.sub_self] at hq
      refine gh_iload hK d_Ln_flagsBehind_49 rfl ?_
      refine gh_aload_n hK d_Ln_flagsBehind_51 rfl ?_
      refine gh_get hK d_Ln_flagsBehind_52 in_Ln rfl h 4 (by decide) kf_Ln_25 rfl rfl ?_
      refine gh_icmp_geN hK d_Ln_flagsBehind_55 (tgt := 97) (by decide) (by omega) (by omega) (fun z => ?_) (fun z => absurd z (by omega))
      refine gh_iload_n hK d_Ln_flagsBehind_97 rfl ?_
      exact gh_iret hK hE d_Ln_flagsBehind_98 (Nat.le_of_ble_eq_true rfl) (Nat.le_of_ble_eq_true rfl) ⟨by rw [← hq]; rfl, rfl⟩
    | succ m ih =>
      intro i x o5 hi hx hq
      rw [show e - i = (e - (i + 1)) + 1 by omega, fgF] at hq
      have hcl := capB_lt (tx.getD i 0)
      refine gh_iload hK d_Ln_flagsBehind_49 rfl ?_
      refine gh_aload_n hK d_Ln_flagsBehind_51 rfl ?_
      refine gh_get hK d_Ln_flagsBehind_52 in_Ln rfl h 4 (by decide) kf_Ln_25 rfl rfl ?_
      refine gh_icmp_geN hK d_Ln_flagsBehind_55 (tgt := 97) (by decide) (by omega) (by omega) (fun z => absurd z (by omega)) (fun z => ?_)
      refine gh_aload_n hK d_Ln_flagsBehind_58 rfl ?_
      refine gh_get hK d_Ln_flagsBehind_59 in_Ln rfl h 0 (by decide) kf_Ln_9 rfl rfl ?_
      refine gh_iload hK d_Ln_flagsBehind_62 rfl ?_
      refine gh_callV (rest := []) [.int (nI i)] hK (c_Lt_at l G hT (j := i) (by omega)) Y_Lt_at V_Lt_at km_Ln_28 hT.ob rfl rfl d_Ln_flagsBehind_64 rfl rfl (Nat.le_of_ble_eq_true rfl) ⟨(Nat.le_of_ble_eq_true rfl), (Nat.le_of_ble_eq_true rfl)⟩ ⟨(Nat.le_of_ble_eq_true rfl), (Nat.le_of_ble_eq_true rfl)⟩ (fun v g' hp => ?_)
      rw [hp.1, hp.2]
      show gh_W l G _ X g _ _ [some (.ref la), some (.int (nI k)), some (.int (nI (s + k))), some (.int (nI x)), some (.int (nI i)), o5] 67 [.int (nI (tx.getD i 0))]
      refine gh_callS (rest := []) [.int (nI (tx.getD i 0))] hK (c_Ln_flagBit l G (g := g) (hT.getD i)) Y_Ln_flagBit V_Ln_flagBit km_Ln_67 rfl d_Ln_flagsBehind_67 rfl rfl (Nat.le_of_ble_eq_true rfl) ⟨(Nat.le_of_ble_eq_true rfl), (Nat.le_of_ble_eq_true rfl)⟩ ⟨(Nat.le_of_ble_eq_true rfl), (Nat.le_of_ble_eq_true rfl)⟩ (fun v g' hp => ?_)
      rw [hp.1, hp.2]
      show gh_W l G _ X g _ _ [some (.ref la), some (.int (nI k)), some (.int (nI (s + k))), some (.int (nI x)), some (.int (nI i)), o5] 70 [.int (nI (capB (tx.getD i 0)))]
      refine gh_istore (lv' := [some (.ref la), some (.int (nI k)), some (.int (nI (s + k))), some (.int (nI x)), some (.int (nI i)), some (.int (nI (capB (tx.getD i 0))))]) hK d_Ln_flagsBehind_70 (Nat.le_of_ble_eq_true rfl) rfl ?_
      refine gh_iload hK d_Ln_flagsBehind_72 rfl ?_
      refine gh_if_eqN hK d_Ln_flagsBehind_74 (tgt := 84) (by decide) (by omega) (fun z2 => ?_) (fun z2 => ?_)
      · refine gh_iconst (v := (-1)) hK d_Ln_flagsBehind_84 (by decide) ?_
        rw [if_neg (fun q => by rw [capB, if_pos q.1] at z2; exact absurd z2 (Nat.ne_of_gt (Nat.pow_pos (by omega))))] at hq
        exact gh_iret hK hE d_Ln_flagsBehind_85 (Nat.le_of_ble_eq_true rfl) (Nat.le_of_ble_eq_true rfl) ⟨by rw [← hq]; rfl, rfl⟩
      · have hcap : isCap (tx.getD i 0) = true := by
          cases hc : isCap (tx.getD i 0) with
          | true => rfl
          | false => rw [capB, if_neg (by rw [hc]; decide)] at z2; omega
        have hcb : capB (tx.getD i 0) = 2 ^ (tx.getD i 0 - 65) := if_pos hcap
        refine gh_iload_n hK d_Ln_flagsBehind_77 rfl ?_
        refine gh_iload hK d_Ln_flagsBehind_78 rfl ?_
        refine gh_iand hK d_Ln_flagsBehind_80 ?_
        rw [nI_and]
        have hand : x &&& capB (tx.getD i 0) < 2 ^ 26 := Nat.lt_of_le_of_lt Nat.and_le_left hx
        refine gh_if_eqN hK d_Ln_flagsBehind_81 (tgt := 86) (by decide) (by omega) (fun z3 => ?_) (fun z3 => ?_)
        · refine gh_iload_n hK d_Ln_flagsBehind_86 rfl ?_
          refine gh_iload hK d_Ln_flagsBehind_87 rfl ?_
          refine gh_ior hK d_Ln_flagsBehind_89 ?_
          rw [nI_or]
          refine gh_istore_n (lv' := [some (.ref la), some (.int (nI k)), some (.int (nI (s + k))), some (.int (nI (x ||| capB (tx.getD i 0)))), some (.int (nI i)), some (.int (nI (capB (tx.getD i 0))))]) hK d_Ln_flagsBehind_90 (Nat.le_of_ble_eq_true rfl) rfl ?_
          refine gh_incN (lv' := [some (.ref la), some (.int (nI k)), some (.int (nI (s + k))), some (.int (nI (x ||| capB (tx.getD i 0)))), some (.int (nI (i + 1))), some (.int (nI (capB (tx.getD i 0))))]) hK d_Ln_flagsBehind_91 rfl rfl ?_
          refine gh_goto (tgt := 49) hK d_Ln_flagsBehind_94 (by decide) ?_
          refine ih (i + 1) _ _ (by omega) (Nat.or_lt_two_pow hx hcl) ?_
          rw [hcb] at z3 ⊢
          rw [if_pos ⟨hcap, (and_p2 _ _).mp z3⟩] at hq
          exact hq
        · refine gh_iconst (v := (-1)) hK d_Ln_flagsBehind_84 (by decide) ?_
          rw [if_neg (fun q => by rw [hcb, (and_p2 _ _).mpr q.2] at z3; omega)] at hq
          exact gh_iret hK hE d_Ln_flagsBehind_85 (Nat.le_of_ble_eq_true rfl) (Nat.le_of_ble_eq_true rfl) ⟨by rw [← hq]; rfl, rfl⟩
  refine gh_aload_n hK d_Ln_flagsBehind_0 rfl ?_
  refine gh_get hK d_Ln_flagsBehind_1 in_Ln rfl h 3 (by decide) kf_Ln_22 rfl rfl ?_
  refine gh_iload_n hK d_Ln_flagsBehind_4 rfl ?_
  refine gh_addN hK d_Ln_flagsBehind_5 ?_
  refine gh_istore_n (lv' := [some (.ref la), some (.int (nI k)), some (.int (nI (s + k))), none, none, none]) hK d_Ln_flagsBehind_6 (Nat.le_of_ble_eq_true rfl) rfl ?_
  refine gh_iload_n hK d_Ln_flagsBehind_7 rfl ?_
  refine gh_aload_n hK d_Ln_flagsBehind_8 rfl ?_
  refine gh_get hK d_Ln_flagsBehind_9 in_Ln rfl h 4 (by decide) kf_Ln_25 rfl rfl ?_
  refine gh_icmp_neN hK d_Ln_flagsBehind_12 (tgt := 17) (by decide) (by omega) (by omega) (fun z => ?_) (fun z => ?_)
  · refine gh_aload_n hK d_Ln_flagsBehind_17 rfl ?_
    refine gh_get hK d_Ln_flagsBehind_18 in_Ln rfl h 0 (by decide) kf_Ln_9 rfl rfl ?_
    refine gh_iload_n hK d_Ln_flagsBehind_21 rfl ?_
    refine gh_callV (rest := []) [.int (nI (s + k))] hK (c_Lt_at l G hT (j := s + k) (by omega)) Y_Lt_at V_Lt_at km_Ln_28 hT.ob rfl rfl d_Ln_flagsBehind_22 rfl rfl (Nat.le_of_ble_eq_true rfl) ⟨(Nat.le_of_ble_eq_true rfl), (Nat.le_of_ble_eq_true rfl)⟩ ⟨(Nat.le_of_ble_eq_true rfl), (Nat.le_of_ble_eq_true rfl)⟩ (fun v g' hp => ?_)
    rw [hp.1, hp.2]
    show gh_W l G _ X g _ _ [some (.ref la), some (.int (nI k)), some (.int (nI (s + k))), none, none, none] 25 [.int (nI (tx.getD (s + k) 0))]
    have hch := hT.getD (s + k)
    refine gh_bipush (v := nI 47) hK d_Ln_flagsBehind_25 (by decide) ?_
    refine gh_icmp_neN hK d_Ln_flagsBehind_27 (tgt := 40) (by decide) (by omega) (by decide) (fun z2 => ?_) (fun z2 => ?_)
    · refine gh_iconst (v := (-1)) hK d_Ln_flagsBehind_40 (by decide) ?_
      exact gh_iret hK hE d_Ln_flagsBehind_41 (Nat.le_of_ble_eq_true rfl) (Nat.le_of_ble_eq_true rfl) ⟨by rw [flB, if_neg z, if_neg (fun q => z2 q.1)]; rfl, rfl⟩
    · refine gh_iload_n hK d_Ln_flagsBehind_30 rfl ?_
      refine gh_iconst (v := nI 1) hK d_Ln_flagsBehind_31 (by decide) ?_
      refine gh_addN hK d_Ln_flagsBehind_32 ?_
      refine gh_aload_n hK d_Ln_flagsBehind_33 rfl ?_
      refine gh_get hK d_Ln_flagsBehind_34 in_Ln rfl h 4 (by decide) kf_Ln_25 rfl rfl ?_
      refine gh_icmp_neN hK d_Ln_flagsBehind_37 (tgt := 42) (by decide) (by omega) (by omega) (fun z3 => ?_) (fun z3 => ?_)
      · refine gh_iconst (v := nI 0) hK d_Ln_flagsBehind_42 (by decide) ?_
        refine gh_istore_n (lv' := [some (.ref la), some (.int (nI k)), some (.int (nI (s + k))), some (.int (nI 0)), none, none]) hK d_Ln_flagsBehind_43 (Nat.le_of_ble_eq_true rfl) rfl ?_
        refine gh_iload_n hK d_Ln_flagsBehind_44 rfl ?_
        refine gh_iconst (v := nI 1) hK d_Ln_flagsBehind_45 (by decide) ?_
        refine gh_addN hK d_Ln_flagsBehind_46 ?_
        refine gh_istore (lv' := [some (.ref la), some (.int (nI k)), some (.int (nI (s + k))), some (.int (nI 0)), some (.int (nI ((s + k) + 1))), none]) hK d_Ln_flagsBehind_47 (Nat.le_of_ble_eq_true rfl) rfl ?_
        exact loop (e - (s + k + 1)) (s + k + 1) 0 none (by omega) (by decide) (by rw [flB, if_neg z, if_pos ⟨z2, z3⟩])
      · refine gh_iconst (v := (-1)) hK d_Ln_flagsBehind_40 (by decide) ?_
        exact gh_iret hK hE d_Ln_flagsBehind_41 (Nat.le_of_ble_eq_true rfl) (Nat.le_of_ble_eq_true rfl) ⟨by rw [flB, if_neg z, if_neg (fun q => q.2 z3)]; rfl, rfl⟩
  · refine gh_iconst (v := nI 0) hK d_Ln_flagsBehind_15 (by decide) ?_
    exact gh_iret hK hE d_Ln_flagsBehind_16 (Nat.le_of_ble_eq_true rfl) (Nat.le_of_ble_eq_true rfl) ⟨by rw [flB, if_pos z]; rfl, rfl⟩
set_option maxRecDepth 20000 in
set_option maxHeartbeats 4000000 in
theorem c_Ln_nextIsPart (l : Launch) (G : GG) {g : GH} {la ta ls le s e wf wl : Nat} {tb : Nat} {tx : List Nat} {b : Bool} (h : Ln g la ta ls le s e wf wl) (hT : Lt G g ta 1 tb 2 2048 tx) (he : e ≤ le) (hle : le ≤ tx.length) : gMet l G y_Ln_nextIsPart b_Ln_nextIsPart 3 (some .boolean) (rmk 5 0 0 107) [.ref la, .int (nI (bn b))] g (fun v g' => v = some (.int (nI (bn (ptO tx b (nxS tx le e) (nxE tx le e))))) ∧ Ln g' la ta ls le (nxS tx le e) (nxE tx le e) wf wl ∧ gh_N [la] g g') := by
  refine gMet.of [some (.ref la), some (.int (nI (bn b))), none] (by decide +kernel) rfl (Nat.le_of_ble_eq_true rfl) rfl (fun X hK hI hE => ?_)
  obtain ⟨ht1, ht2⟩ := hT.len
  obtain ⟨b1, b2⟩ := nxS_le (tx := tx) he
  obtain ⟨b3, b4⟩ := nxE_le (tx := tx) he
  refine gh_aload_n hK d_Ln_nextIsPart_0 rfl ?_
  refine gh_callV (rest := []) [] hK (c_Ln_next l G h hT he hle) Y_Ln_next V_Ln_next km_Ln_34 h rfl rfl d_Ln_nextIsPart_1 rfl rfl (Nat.le_of_ble_eq_true rfl) ⟨(Nat.le_of_ble_eq_true rfl), (Nat.le_of_ble_eq_true rfl)⟩ ⟨(Nat.le_of_ble_eq_true rfl), (Nat.le_of_ble_eq_true rfl)⟩ (fun v g1 hp => ?_)
  obtain ⟨rfl, hp1, hpN⟩ := hp
  show gh_W l G _ X g1 _ _ [some (.ref la), some (.int (nI (bn b))), none] 4 [.int (nI (bn (decide (nxS tx le e < nxE tx le e))))]
  have hT1 := h.T hT hpN
  generalize nxS tx le e = s1 at b1 b2 b3 hp1 hE ⊢
  generalize nxE tx le e = e1 at b3 b4 hp1 hE ⊢
  refine gh_if_neB hK d_Ln_nextIsPart_4 (tgt := 9) (by decide) (fun z => ?_) (fun z => ?_)
  · refine gh_aload_n hK d_Ln_nextIsPart_9 rfl ?_
    refine gh_ldcS (i := 7) hK d_Ln_nextIsPart_10 (by decide) rfl ?_
    refine gh_callV (rest := []) [.ref (G.2.2.1 7)] hK (c_Ln_is l G hp1 hT1 b3 (by omega) (i := 7) (by decide)) Y_Ln_is V_Ln_is km_Ln_73 hp1 rfl rfl d_Ln_nextIsPart_12 rfl rfl (Nat.le_of_ble_eq_true rfl) ⟨(Nat.le_of_ble_eq_true rfl), (Nat.le_of_ble_eq_true rfl)⟩ ⟨(Nat.le_of_ble_eq_true rfl), (Nat.le_of_ble_eq_true rfl)⟩ (fun v g' hp => ?_)
    rw [hp.1, hp.2]
    show gh_W l G _ X g1 _ _ [some (.ref la), some (.int (nI (bn b))), none] 15 [.int (nI (bn (pcI tx s1 e1 [48])))]
    refine gh_if_eqB hK d_Ln_nextIsPart_15 (tgt := 20) (by decide) (fun z0 => ?_) (fun z0 => ?_)
    · have loop : ∀ (m i : Nat), i + m = e1 → sc (ptL tx b) e1 i = sc (ptL tx b) e1 s1 → gh_W l G (rmk 5 0 0 107) X g1 0 0 [some (.ref la), some (.int (nI (bn b))), some (.int (nI i))] 25 [] := by
        intro m
        induction m with
        | zero =>
          intro i hi hq
          obtain rfl : i = e1 := by omega
          rw [sc_out (Nat.le_refl _)] at hq
          refine gh_iload_n hK d_Ln_nextIsPart_25 rfl ?_
          refine gh_aload_n hK d_Ln_nextIsPart_26 rfl ?_
          refine gh_get hK d_Ln_nextIsPart_27 in_Ln rfl hp1 4 (by decide) kf_Ln_25 rfl rfl ?_
          refine gh_icmp_geN hK d_Ln_nextIsPart_30 (tgt := 72) (by decide) (by omega) (by omega) (fun z3 => ?_) (fun z3 => absurd z3 (by omega))
          refine gh_aload_n hK d_Ln_nextIsPart_72 rfl ?_
          refine gh_get hK d_Ln_nextIsPart_73 in_Ln rfl hp1 4 (by decide) kf_Ln_25 rfl rfl ?_
          refine gh_aload_n hK d_Ln_nextIsPart_76 rfl ?_
          refine gh_get hK d_Ln_nextIsPart_77 in_Ln rfl hp1 3 (by decide) kf_Ln_22 rfl rfl ?_
          refine gh_subN hK d_Ln_nextIsPart_80 (by omega) ?_
          refine gh_bipush (v := nI 6) hK d_Ln_nextIsPart_81 (by decide) ?_
          refine gh_icmp_gtN hK d_Ln_nextIsPart_83 (tgt := 90) (by decide) (by omega) (by decide) (fun z4 => ?_) (fun z4 => ?_)
          · refine gh_iconst (v := nI 0) hK d_Ln_nextIsPart_90 (by decide) ?_
            exact gh_zret rfl hK hE d_Ln_nextIsPart_91 (Nat.le_of_ble_eq_true rfl) (Nat.le_of_ble_eq_true rfl) ⟨by rw [ptO, z, z0, decide_eq_true hq.symm, decide_eq_false (by omega)]; rfl, hp1, hpN⟩
          · refine gh_iconst (v := nI 1) hK d_Ln_nextIsPart_86 (by decide) ?_
            refine gh_goto (tgt := 91) hK d_Ln_nextIsPart_87 (by decide) ?_
            exact gh_zret rfl hK hE d_Ln_nextIsPart_91 (Nat.le_of_ble_eq_true rfl) (Nat.le_of_ble_eq_true rfl) ⟨by rw [ptO, z, z0, decide_eq_true hq.symm, decide_eq_true z4]; rfl, hp1, hpN⟩
        | succ m ih =>
          intro i hi hq
          refine gh_iload_n hK d_Ln_nextIsPart_25 rfl ?_
          refine gh_aload_n hK d_Ln_nextIsPart_26 rfl ?_
          refine gh_get hK d_Ln_nextIsPart_27 in_Ln rfl hp1 4 (by decide) kf_Ln_25 rfl rfl ?_
          refine gh_icmp_geN hK d_Ln_nextIsPart_30 (tgt := 72) (by decide) (by omega) (by omega) (fun z3 => absurd z3 (by omega)) (fun z3 => ?_)
          refine gh_aload_n hK d_Ln_nextIsPart_33 rfl ?_
          refine gh_get hK d_Ln_nextIsPart_34 in_Ln rfl hp1 0 (by decide) kf_Ln_9 rfl rfl ?_
          refine gh_iload_n hK d_Ln_nextIsPart_37 rfl ?_
          refine gh_callV (rest := []) [.int (nI i)] hK (c_Lt_at l G hT1 (j := i) (by omega)) Y_Lt_at V_Lt_at km_Ln_28 hT1.ob rfl rfl d_Ln_nextIsPart_38 rfl rfl (Nat.le_of_ble_eq_true rfl) ⟨(Nat.le_of_ble_eq_true rfl), (Nat.le_of_ble_eq_true rfl)⟩ ⟨(Nat.le_of_ble_eq_true rfl), (Nat.le_of_ble_eq_true rfl)⟩ (fun v g' hp => ?_)
          rw [hp.1, hp.2]
          show gh_W l G _ X g1 _ _ [some (.ref la), some (.int (nI (bn b))), some (.int (nI i))] 41 [.int (nI (tx.getD i 0))]
          have hch := hT1.getD i
          refine gh_callS (rest := []) [.int (nI (tx.getD i 0))] hK (c_Ln_isLetter l G (g := g1) hch) Y_Ln_isLetter V_Ln_isLetter km_Ln_53 rfl d_Ln_nextIsPart_41 rfl rfl (Nat.le_of_ble_eq_true rfl) ⟨(Nat.le_of_ble_eq_true rfl), (Nat.le_of_ble_eq_true rfl)⟩ ⟨(Nat.le_of_ble_eq_true rfl), (Nat.le_of_ble_eq_true rfl)⟩ (fun v g' hp => ?_)
          rw [hp.1, hp.2]
          show gh_W l G _ X g1 _ _ [some (.ref la), some (.int (nI (bn b))), some (.int (nI i))] 44 [.int (nI (bn (isLet (tx.getD i 0))))]
          refine gh_if_neB hK d_Ln_nextIsPart_44 (tgt := 66) (by decide) (fun z4 => ?_) (fun z4 => ?_)
          · refine gh_incN (lv' := [some (.ref la), some (.int (nI (bn b))), some (.int (nI (i + 1)))]) hK d_Ln_nextIsPart_66 rfl rfl ?_
            refine gh_goto (tgt := 25) hK d_Ln_nextIsPart_69 (by decide) ?_
            exact ih (i + 1) (by omega) (by rw [← hq]; exact (sc_yes (i := i) (by omega) (by rw [ptL, z4]; rfl)).symm)
          · refine gh_iload_n hK d_Ln_nextIsPart_47 rfl ?_
            refine gh_if_eqB hK d_Ln_nextIsPart_48 (tgt := 64) (by decide) (fun z5 => ?_) (fun z5 => ?_)
            · refine gh_iconst (v := nI 0) hK d_Ln_nextIsPart_64 (by decide) ?_
              rw [sc_no (i := i) (by rw [ptL, z4, z5]; simp)] at hq
              exact gh_zret rfl hK hE d_Ln_nextIsPart_65 (Nat.le_of_ble_eq_true rfl) (Nat.le_of_ble_eq_true rfl) ⟨by rw [ptO, z, z0, decide_eq_false (by omega : ¬ sc (ptL tx b) e1 s1 = e1)]; rfl, hp1, hpN⟩
            · refine gh_aload_n hK d_Ln_nextIsPart_51 rfl ?_
              refine gh_get hK d_Ln_nextIsPart_52 in_Ln rfl hp1 0 (by decide) kf_Ln_9 rfl rfl ?_
              refine gh_iload_n hK d_Ln_nextIsPart_55 rfl ?_
              refine gh_callV (rest := []) [.int (nI i)] hK (c_Lt_at l G hT1 (j := i) (by omega)) Y_Lt_at V_Lt_at km_Ln_28 hT1.ob rfl rfl d_Ln_nextIsPart_56 rfl rfl (Nat.le_of_ble_eq_true rfl) ⟨(Nat.le_of_ble_eq_true rfl), (Nat.le_of_ble_eq_true rfl)⟩ ⟨(Nat.le_of_ble_eq_true rfl), (Nat.le_of_ble_eq_true rfl)⟩ (fun v g' hp => ?_)
              rw [hp.1, hp.2]
              show gh_W l G _ X g1 _ _ [some (.ref la), some (.int (nI (bn b))), some (.int (nI i))] 59 [.int (nI (tx.getD i 0))]
              refine gh_bipush (v := nI 46) hK d_Ln_nextIsPart_59 (by decide) ?_
              refine gh_icmp_eqN hK d_Ln_nextIsPart_61 (tgt := 66) (by decide) (by omega) (by decide) (fun z6 => ?_) (fun z6 => ?_)
              · refine gh_incN (lv' := [some (.ref la), some (.int (nI (bn b))), some (.int (nI (i + 1)))]) hK d_Ln_nextIsPart_66 rfl rfl ?_
                refine gh_goto (tgt := 25) hK d_Ln_nextIsPart_69 (by decide) ?_
                exact ih (i + 1) (by omega) (by rw [← hq]; exact (sc_yes (i := i) (by omega) (by rw [ptL, z4, z5, decide_eq_true z6]; rfl)).symm)
              · refine gh_iconst (v := nI 0) hK d_Ln_nextIsPart_64 (by decide) ?_
                rw [sc_no (i := i) (by rw [ptL, z4, z5, decide_eq_false z6]; simp)] at hq
                exact gh_zret rfl hK hE d_Ln_nextIsPart_65 (Nat.le_of_ble_eq_true rfl) (Nat.le_of_ble_eq_true rfl) ⟨by rw [ptO, z, z0, decide_eq_false (by omega : ¬ sc (ptL tx b) e1 s1 = e1)]; rfl, hp1, hpN⟩
      refine gh_aload_n hK d_Ln_nextIsPart_20 rfl ?_
      refine gh_get hK d_Ln_nextIsPart_21 in_Ln rfl hp1 3 (by decide) kf_Ln_22 rfl rfl ?_
      refine gh_istore_n (lv' := [some (.ref la), some (.int (nI (bn b))), some (.int (nI s1))]) hK d_Ln_nextIsPart_24 (Nat.le_of_ble_eq_true rfl) rfl ?_
      exact loop (e1 - s1) s1 (by omega) rfl
    · refine gh_iconst (v := nI 1) hK d_Ln_nextIsPart_18 (by decide) ?_
      exact gh_zret rfl hK hE d_Ln_nextIsPart_19 (Nat.le_of_ble_eq_true rfl) (Nat.le_of_ble_eq_true rfl) ⟨by rw [ptO, z, z0]; rfl, hp1, hpN⟩
  · refine gh_iconst (v := nI 0) hK d_Ln_nextIsPart_7 (by decide) ?_
    exact gh_zret rfl hK hE d_Ln_nextIsPart_8 (Nat.le_of_ble_eq_true rfl) (Nat.le_of_ble_eq_true rfl) ⟨by rw [ptO, z]; rfl, hp1, hpN⟩
/-- the letters of a part: none for 0 -/
def ptW (tx : List Nat) (s e : Nat) : List Nat := if pcI tx s e [48] = true then [] else (tx.drop s).take (e - s)
set_option maxRecDepth 20000 in
set_option maxHeartbeats 4000000 in
theorem c_Ln_part (l : Launch) (G : GG) {g : GH} {la ta ls le s e wf wl : Nat} {tb : Nat} {tx : List Nat} (T U : Nat) (h : Ln g la ta ls le s e wf wl) (hT : Lt G g ta 1 tb 2 2048 tx) (hse : s ≤ e) (he : e ≤ tx.length) : gMet l G y_Ln_part b_Ln_part 1 (some (.object "SpellDesk$Letters")) (rmk 5 2 (2 + (e - s)) 107) [.ref la] g (fun v g' => ∃ a1 b1, v = some (.ref a1) ∧ g a1 = none ∧ g b1 = none ∧ Lt G g' a1 T b1 U (ptW tx s e).length (ptW tx s e) ∧ gh_N [] g g') := by
  refine gMet.of [some (.ref la)] (by decide +kernel) rfl (Nat.le_of_ble_eq_true rfl) rfl (fun X hK hI hE => ?_)
  obtain ⟨ht1, ht2⟩ := hT.len
  refine gh_aload_n hK d_Ln_part_0 rfl ?_
  refine gh_get hK d_Ln_part_1 in_Ln rfl h 0 (by decide) kf_Ln_9 rfl rfl ?_
  refine gh_aload_n hK d_Ln_part_4 rfl ?_
  refine gh_get hK d_Ln_part_5 in_Ln rfl h 3 (by decide) kf_Ln_22 rfl rfl ?_
  refine gh_aload_n hK d_Ln_part_8 rfl ?_
  refine gh_ldcS (i := 7) hK d_Ln_part_9 (by decide) rfl ?_
  refine gh_callV (rest := [.int (nI s), .ref ta]) [.ref (G.2.2.1 7)] hK (c_Ln_is l G h hT hse he (i := 7) (by decide)) Y_Ln_is V_Ln_is km_Ln_73 h rfl rfl d_Ln_part_11 rfl rfl (Nat.le_of_ble_eq_true rfl) ⟨(Nat.le_of_ble_eq_true rfl), (Nat.le_of_ble_eq_true rfl)⟩ ⟨Nat.zero_le _, Nat.zero_le _⟩ (fun v g' hp => ?_)
  rw [hp.1, hp.2]
  show gh_W l G _ X g 0 0 [some (.ref la)] 14 [.int (nI (bn (pcI tx s e [48]))), .int (nI s), .ref ta]
  refine gh_if_eqB hK d_Ln_part_14 (tgt := 21) (by decide) (fun z => ?_) (fun z => ?_)
  · refine gh_aload_n hK d_Ln_part_21 rfl ?_
    refine gh_get hK d_Ln_part_22 in_Ln rfl h 4 (by decide) kf_Ln_25 rfl rfl ?_
    refine gh_aload_n hK d_Ln_part_25 rfl ?_
    refine gh_get hK d_Ln_part_26 in_Ln rfl h 3 (by decide) kf_Ln_22 rfl rfl ?_
    refine gh_subN hK d_Ln_part_29 (by omega) ?_
    refine gh_callV (rest := []) [.int (nI s), .int (nI (e - s))] hK (c_Lt_copy l G (fr := s) (len := e - s) T U hT (by omega)) Y_Lt_copy V_Lt_copy km_Ln_77 hT.ob rfl rfl d_Ln_part_30 rfl rfl (Nat.le_of_ble_eq_true rfl) ⟨(Nat.le_of_ble_eq_true rfl), (Nat.le_of_ble_eq_true rfl)⟩ ⟨(Nat.le_of_ble_eq_true rfl), by show 0 + (2 + (e - s)) ≤ 2 + (e - s); omega⟩ (fun v g1 hp => ?_)
    obtain ⟨a1, b1, rfl, ha1, hb1, hp1, hpN⟩ := hp
    show gh_W l G _ X g1 2 (0 + (2 + (e - s))) [some (.ref la)] 33 [.ref a1]
    have ew : ptW tx s e = (tx.drop s).take (e - s) := if_neg (by rw [z]; decide)
    refine gh_aret (Or.inl ⟨_, rfl⟩) (Or.inr ⟨_, rfl⟩) hK hE d_Ln_part_33 (Nat.le_refl _) (by show 0 + (2 + (e - s)) ≤ 2 + (e - s); omega) ⟨a1, b1, rfl, ha1, hb1, ?_, hpN⟩
    rw [ew, slice_len (by omega)]
    exact hp1
  · refine gh_iconst (v := nI 0) hK d_Ln_part_17 (by decide) ?_
    refine gh_goto (tgt := 30) hK d_Ln_part_18 (by decide) ?_
    refine gh_callV (rest := []) [.int (nI s), .int (nI 0)] hK (c_Lt_copy l G (fr := s) (len := 0) T U hT (by omega)) Y_Lt_copy V_Lt_copy km_Ln_77 hT.ob rfl rfl d_Ln_part_30 rfl rfl (Nat.le_of_ble_eq_true rfl) ⟨(Nat.le_of_ble_eq_true rfl), (Nat.le_of_ble_eq_true rfl)⟩ ⟨(Nat.le_of_ble_eq_true rfl), by show 0 + (2 + (0)) ≤ 2 + (e - s); omega⟩ (fun v g1 hp => ?_)
    obtain ⟨a1, b1, rfl, ha1, hb1, hp1, hpN⟩ := hp
    show gh_W l G _ X g1 2 (0 + (2 + (0))) [some (.ref la)] 33 [.ref a1]
    have ew : ptW tx s e = (tx.drop s).take (0) := if_pos z
    refine gh_aret (Or.inl ⟨_, rfl⟩) (Or.inr ⟨_, rfl⟩) hK hE d_Ln_part_33 (Nat.le_refl _) (by show 0 + (2 + (0)) ≤ 2 + (e - s); omega) ⟨a1, b1, rfl, ha1, hb1, ?_, hpN⟩
    rw [ew, slice_len (by omega)]
    exact hp1
end
section
abbrev b_AL_init : ByteArray := prog_31_method_2_code
def y_AL_init : MethodName := ⟨"java/util/ArrayList", "<init>", "()V"⟩
set_option maxRecDepth 20000 in
theorem Y_AL_init : gh_Y y_AL_init b_AL_init 1 none 0 := ⟨gt_in (i := 113) rfl rfl, gt_in (i := 9) (by decide +kernel) rfl, by decide +kernel, by decide +kernel, by decide +kernel⟩
theorem V_AL_init : Cond.instanceMethod y_AL_init ∈ gTbl := (gt_in (i := 112) (by decide +kernel) rfl)
theorem d_AL_init_0 : decode b_AL_init 0 = .ok (.aload_n 0, 1) := by decide +kernel
theorem d_AL_init_1 : decode b_AL_init 1 = .ok (.invokespecial 1, 3) := by decide +kernel
theorem d_AL_init_4 : decode b_AL_init 4 = .ok (.aload_n 0, 1) := by decide +kernel
theorem d_AL_init_5 : decode b_AL_init 5 = .ok (.getstatic 39, 3) := by decide +kernel
theorem d_AL_init_8 : decode b_AL_init 8 = .ok (.putfield 9, 3) := by decide +kernel
theorem d_AL_init_11 : decode b_AL_init 11 = .ok (.return_, 1) := by decide +kernel
abbrev b_AL_size : ByteArray := prog_31_method_8_code
def y_AL_size : MethodName := ⟨"java/util/ArrayList", "size", "()I"⟩
set_option maxRecDepth 20000 in
theorem Y_AL_size : gh_Y y_AL_size b_AL_size 1 (some .int) 0 := ⟨gt_in (i := 380) rfl rfl, gt_in (i := 9) (by decide +kernel) rfl, by decide +kernel, by decide +kernel, by decide +kernel⟩
theorem V_AL_size : Cond.instanceMethod y_AL_size ∈ gTbl ∧ Cond.selects y_AL_size.cls y_AL_size y_AL_size ∈ gTbl := ⟨(gt_in (i := 378) (by decide +kernel) rfl), (gt_in (i := 379) (by decide +kernel) rfl)⟩
theorem d_AL_size_0 : decode b_AL_size 0 = .ok (.aload_n 0, 1) := by decide +kernel
theorem d_AL_size_1 : decode b_AL_size 1 = .ok (.getfield 48, 3) := by decide +kernel
theorem d_AL_size_4 : decode b_AL_size 4 = .ok (.ireturn, 1) := by decide +kernel
abbrev b_AL_get : ByteArray := prog_31_method_20_code
def y_AL_get : MethodName := ⟨"java/util/ArrayList", "get", "(I)Ljava/lang/Object;"⟩
set_option maxRecDepth 20000 in
theorem Y_AL_get : gh_Y y_AL_get b_AL_get 2 (some (.object "java/lang/Object")) 1 := ⟨gt_in (i := 384) rfl rfl, gt_in (i := 9) (by decide +kernel) rfl, by decide +kernel, by decide +kernel, by decide +kernel⟩
theorem V_AL_get : Cond.instanceMethod y_AL_get ∈ gTbl ∧ Cond.selects y_AL_get.cls y_AL_get y_AL_get ∈ gTbl := ⟨(gt_in (i := 382) (by decide +kernel) rfl), (gt_in (i := 383) (by decide +kernel) rfl)⟩
theorem d_AL_get_0 : decode b_AL_get 0 = .ok (.iload_n 1, 1) := by decide +kernel
theorem d_AL_get_1 : decode b_AL_get 1 = .ok (.aload_n 0, 1) := by decide +kernel
theorem d_AL_get_2 : decode b_AL_get 2 = .ok (.getfield 48, 3) := by decide +kernel
theorem d_AL_get_5 : decode b_AL_get 5 = .ok (.invokestatic 118, 3) := by decide +kernel
theorem d_AL_get_8 : decode b_AL_get 8 = .ok (.pop, 1) := by decide +kernel
theorem d_AL_get_9 : decode b_AL_get 9 = .ok (.aload_n 0, 1) := by decide +kernel
theorem d_AL_get_10 : decode b_AL_get 10 = .ok (.iload_n 1, 1) := by decide +kernel
theorem d_AL_get_11 : decode b_AL_get 11 = .ok (.invokevirtual 123, 3) := by decide +kernel
theorem d_AL_get_14 : decode b_AL_get 14 = .ok (.areturn, 1) := by decide +kernel
abbrev b_AL_elementData : ByteArray := prog_31_method_18_code
def y_AL_elementData : MethodName := ⟨"java/util/ArrayList", "elementData", "(I)Ljava/lang/Object;"⟩
set_option maxRecDepth 20000 in
theorem Y_AL_elementData : gh_Y y_AL_elementData b_AL_elementData 2 (some (.object "java/lang/Object")) 1 := ⟨gt_in (i := 392) rfl rfl, gt_in (i := 9) (by decide +kernel) rfl, by decide +kernel, by decide +kernel, by decide +kernel⟩
theorem V_AL_elementData : Cond.instanceMethod y_AL_elementData ∈ gTbl ∧ Cond.selects y_AL_elementData.cls y_AL_elementData y_AL_elementData ∈ gTbl := ⟨(gt_in (i := 390) (by decide +kernel) rfl), (gt_in (i := 391) (by decide +kernel) rfl)⟩
theorem d_AL_elementData_0 : decode b_AL_elementData 0 = .ok (.aload_n 0, 1) := by decide +kernel
theorem d_AL_elementData_1 : decode b_AL_elementData 1 = .ok (.getfield 9, 3) := by decide +kernel
theorem d_AL_elementData_4 : decode b_AL_elementData 4 = .ok (.iload_n 1, 1) := by decide +kernel
theorem d_AL_elementData_5 : decode b_AL_elementData 5 = .ok (.aaload, 1) := by decide +kernel
theorem d_AL_elementData_6 : decode b_AL_elementData 6 = .ok (.areturn, 1) := by decide +kernel
abbrev b_AL_add : ByteArray := prog_31_method_26_code
def y_AL_add : MethodName := ⟨"java/util/ArrayList", "add", "(ILjava/lang/Object;)V"⟩
set_option maxRecDepth 20000 in
theorem Y_AL_add : gh_Y y_AL_add b_AL_add 5 none 2 := ⟨gt_in (i := 462) rfl rfl, gt_in (i := 9) (by decide +kernel) rfl, by decide +kernel, by decide +kernel, by decide +kernel⟩
theorem V_AL_add : Cond.instanceMethod y_AL_add ∈ gTbl ∧ Cond.selects y_AL_add.cls y_AL_add y_AL_add ∈ gTbl := ⟨(gt_in (i := 460) (by decide +kernel) rfl), (gt_in (i := 461) (by decide +kernel) rfl)⟩
theorem d_AL_add_0 : decode b_AL_add 0 = .ok (.aload_n 0, 1) := by decide +kernel
theorem d_AL_add_1 : decode b_AL_add 1 = .ok (.iload_n 1, 1) := by decide +kernel
theorem d_AL_add_2 : decode b_AL_add 2 = .ok (.invokevirtual 135, 3) := by decide +kernel
theorem d_AL_add_5 : decode b_AL_add 5 = .ok (.aload_n 0, 1) := by decide +kernel
theorem d_AL_add_6 : decode b_AL_add 6 = .ok (.dup, 1) := by decide +kernel
theorem d_AL_add_7 : decode b_AL_add 7 = .ok (.getfield 63, 3) := by decide +kernel
theorem d_AL_add_10 : decode b_AL_add 10 = .ok (.iconst 1, 1) := by decide +kernel
theorem d_AL_add_11 : decode b_AL_add 11 = .ok (.iadd, 1) := by decide +kernel
theorem d_AL_add_12 : decode b_AL_add 12 = .ok (.putfield 63, 3) := by decide +kernel
theorem d_AL_add_15 : decode b_AL_add 15 = .ok (.aload_n 0, 1) := by decide +kernel
theorem d_AL_add_16 : decode b_AL_add 16 = .ok (.getfield 48, 3) := by decide +kernel
theorem d_AL_add_19 : decode b_AL_add 19 = .ok (.dup, 1) := by decide +kernel
theorem d_AL_add_20 : decode b_AL_add 20 = .ok (.istore_n 3, 1) := by decide +kernel
theorem d_AL_add_21 : decode b_AL_add 21 = .ok (.aload_n 0, 1) := by decide +kernel
theorem d_AL_add_22 : decode b_AL_add 22 = .ok (.getfield 9, 3) := by decide +kernel
theorem d_AL_add_25 : decode b_AL_add 25 = .ok (.dup, 1) := by decide +kernel
theorem d_AL_add_26 : decode b_AL_add 26 = .ok (.astore 4, 2) := by decide +kernel
theorem d_AL_add_28 : decode b_AL_add 28 = .ok (.arraylength, 1) := by decide +kernel
theorem d_AL_add_29 : decode b_AL_add 29 = .ok (.if_icmp .ne 9, 3) := by decide +kernel
theorem d_AL_add_32 : decode b_AL_add 32 = .ok (.aload_n 0, 1) := by decide +kernel
theorem d_AL_add_33 : decode b_AL_add 33 = .ok (.invokevirtual 129, 3) := by decide +kernel
theorem d_AL_add_36 : decode b_AL_add 36 = .ok (.astore 4, 2) := by decide +kernel
theorem d_AL_add_38 : decode b_AL_add 38 = .ok (.aload 4, 2) := by decide +kernel
theorem d_AL_add_40 : decode b_AL_add 40 = .ok (.iload_n 1, 1) := by decide +kernel
theorem d_AL_add_41 : decode b_AL_add 41 = .ok (.aload 4, 2) := by decide +kernel
theorem d_AL_add_43 : decode b_AL_add 43 = .ok (.iload_n 1, 1) := by decide +kernel
theorem d_AL_add_44 : decode b_AL_add 44 = .ok (.iconst 1, 1) := by decide +kernel
theorem d_AL_add_45 : decode b_AL_add 45 = .ok (.iadd, 1) := by decide +kernel
theorem d_AL_add_46 : decode b_AL_add 46 = .ok (.iload_n 3, 1) := by decide +kernel
theorem d_AL_add_47 : decode b_AL_add 47 = .ok (.iload_n 1, 1) := by decide +kernel
theorem d_AL_add_48 : decode b_AL_add 48 = .ok (.isub, 1) := by decide +kernel
theorem d_AL_add_49 : decode b_AL_add 49 = .ok (.invokestatic 112, 3) := by decide +kernel
theorem d_AL_add_52 : decode b_AL_add 52 = .ok (.aload 4, 2) := by decide +kernel
theorem d_AL_add_54 : decode b_AL_add 54 = .ok (.iload_n 1, 1) := by decide +kernel
theorem d_AL_add_55 : decode b_AL_add 55 = .ok (.aload_n 2, 1) := by decide +kernel
theorem d_AL_add_56 : decode b_AL_add 56 = .ok (.aastore, 1) := by decide +kernel
theorem d_AL_add_57 : decode b_AL_add 57 = .ok (.aload_n 0, 1) := by decide +kernel
theorem d_AL_add_58 : decode b_AL_add 58 = .ok (.iload_n 3, 1) := by decide +kernel
theorem d_AL_add_59 : decode b_AL_add 59 = .ok (.iconst 1, 1) := by decide +kernel
theorem d_AL_add_60 : decode b_AL_add 60 = .ok (.iadd, 1) := by decide +kernel
theorem d_AL_add_61 : decode b_AL_add 61 = .ok (.putfield 48, 3) := by decide +kernel
theorem d_AL_add_64 : decode b_AL_add 64 = .ok (.return_, 1) := by decide +kernel
abbrev b_AL_rangeCheckForAdd : ByteArray := prog_31_method_45_code
def y_AL_rangeCheckForAdd : MethodName := ⟨"java/util/ArrayList", "rangeCheckForAdd", "(I)V"⟩
set_option maxRecDepth 20000 in
theorem Y_AL_rangeCheckForAdd : gh_Y y_AL_rangeCheckForAdd b_AL_rangeCheckForAdd 2 none 1 := ⟨gt_in (i := 466) rfl rfl, gt_in (i := 9) (by decide +kernel) rfl, by decide +kernel, by decide +kernel, by decide +kernel⟩
theorem V_AL_rangeCheckForAdd : Cond.instanceMethod y_AL_rangeCheckForAdd ∈ gTbl ∧ Cond.selects y_AL_rangeCheckForAdd.cls y_AL_rangeCheckForAdd y_AL_rangeCheckForAdd ∈ gTbl := ⟨(gt_in (i := 465) (by decide +kernel) rfl), (gt_sel (n := 3) (i := 3) (by decide +kernel))⟩
theorem d_AL_rangeCheckForAdd_0 : decode b_AL_rangeCheckForAdd 0 = .ok (.iload_n 1, 1) := by decide +kernel
theorem d_AL_rangeCheckForAdd_1 : decode b_AL_rangeCheckForAdd 1 = .ok (.aload_n 0, 1) := by decide +kernel
theorem d_AL_rangeCheckForAdd_2 : decode b_AL_rangeCheckForAdd 2 = .ok (.getfield 48, 3) := by decide +kernel
theorem d_AL_rangeCheckForAdd_5 : decode b_AL_rangeCheckForAdd 5 = .ok (.if_icmp .gt 7, 3) := by decide +kernel
theorem d_AL_rangeCheckForAdd_8 : decode b_AL_rangeCheckForAdd 8 = .ok (.iload_n 1, 1) := by decide +kernel
theorem d_AL_rangeCheckForAdd_9 : decode b_AL_rangeCheckForAdd 9 = .ok (.ifCond .ge 16, 3) := by decide +kernel
theorem d_AL_rangeCheckForAdd_12 : decode b_AL_rangeCheckForAdd 12 = .ok (.new 187, 3) := by decide +kernel
theorem d_AL_rangeCheckForAdd_15 : decode b_AL_rangeCheckForAdd 15 = .ok (.dup, 1) := by decide +kernel
theorem d_AL_rangeCheckForAdd_16 : decode b_AL_rangeCheckForAdd 16 = .ok (.aload_n 0, 1) := by decide +kernel
theorem d_AL_rangeCheckForAdd_17 : decode b_AL_rangeCheckForAdd 17 = .ok (.iload_n 1, 1) := by decide +kernel
theorem d_AL_rangeCheckForAdd_18 : decode b_AL_rangeCheckForAdd 18 = .ok (.invokevirtual 198, 3) := by decide +kernel
theorem d_AL_rangeCheckForAdd_21 : decode b_AL_rangeCheckForAdd 21 = .ok (.invokespecial 193, 3) := by decide +kernel
theorem d_AL_rangeCheckForAdd_24 : decode b_AL_rangeCheckForAdd 24 = .ok (.athrow, 1) := by decide +kernel
theorem d_AL_rangeCheckForAdd_25 : decode b_AL_rangeCheckForAdd 25 = .ok (.return_, 1) := by decide +kernel
abbrev b_AL_grow : ByteArray := prog_31_method_7_code
def y_AL_grow : MethodName := ⟨"java/util/ArrayList", "grow", "()[Ljava/lang/Object;"⟩
set_option maxRecDepth 20000 in
theorem Y_AL_grow : gh_Y y_AL_grow b_AL_grow 1 (some (.array (.object "java/lang/Object"))) 0 := ⟨gt_in (i := 752) rfl rfl, gt_in (i := 9) (by decide +kernel) rfl, by decide +kernel, by decide +kernel, by decide +kernel⟩
theorem V_AL_grow : Cond.instanceMethod y_AL_grow ∈ gTbl ∧ Cond.selects y_AL_grow.cls y_AL_grow y_AL_grow ∈ gTbl := ⟨(gt_in (i := 751) (by decide +kernel) rfl), (gt_sel (n := 3) (i := 6) (by decide +kernel))⟩
theorem d_AL_grow_0 : decode b_AL_grow 0 = .ok (.aload_n 0, 1) := by decide +kernel
theorem d_AL_grow_1 : decode b_AL_grow 1 = .ok (.aload_n 0, 1) := by decide +kernel
theorem d_AL_grow_2 : decode b_AL_grow 2 = .ok (.getfield 48, 3) := by decide +kernel
theorem d_AL_grow_5 : decode b_AL_grow 5 = .ok (.iconst 1, 1) := by decide +kernel
theorem d_AL_grow_6 : decode b_AL_grow 6 = .ok (.iadd, 1) := by decide +kernel
theorem d_AL_grow_7 : decode b_AL_grow 7 = .ok (.invokevirtual 69, 3) := by decide +kernel
theorem d_AL_grow_10 : decode b_AL_grow 10 = .ok (.areturn, 1) := by decide +kernel
abbrev b_AL_grow1 : ByteArray := prog_31_method_6_code
def y_AL_grow1 : MethodName := ⟨"java/util/ArrayList", "grow", "(I)[Ljava/lang/Object;"⟩
set_option maxRecDepth 20000 in
theorem Y_AL_grow1 : gh_Y y_AL_grow1 b_AL_grow1 4 (some (.array (.object "java/lang/Object"))) 1 := ⟨gt_in (i := 756) rfl rfl, gt_in (i := 9) (by decide +kernel) rfl, by decide +kernel, by decide +kernel, by decide +kernel⟩
theorem V_AL_grow1 : Cond.instanceMethod y_AL_grow1 ∈ gTbl ∧ Cond.selects y_AL_grow1.cls y_AL_grow1 y_AL_grow1 ∈ gTbl := ⟨(gt_in (i := 755) (by decide +kernel) rfl), (gt_sel (n := 3) (i := 7) (by decide +kernel))⟩
theorem d_AL_grow1_0 : decode b_AL_grow1 0 = .ok (.aload_n 0, 1) := by decide +kernel
theorem d_AL_grow1_1 : decode b_AL_grow1 1 = .ok (.getfield 9, 3) := by decide +kernel
theorem d_AL_grow1_4 : decode b_AL_grow1 4 = .ok (.arraylength, 1) := by decide +kernel
theorem d_AL_grow1_5 : decode b_AL_grow1 5 = .ok (.istore_n 2, 1) := by decide +kernel
theorem d_AL_grow1_6 : decode b_AL_grow1 6 = .ok (.iload_n 2, 1) := by decide +kernel
theorem d_AL_grow1_7 : decode b_AL_grow1 7 = .ok (.ifCond .gt 13, 3) := by decide +kernel
theorem d_AL_grow1_10 : decode b_AL_grow1 10 = .ok (.aload_n 0, 1) := by decide +kernel
theorem d_AL_grow1_11 : decode b_AL_grow1 11 = .ok (.getfield 9, 3) := by decide +kernel
theorem d_AL_grow1_14 : decode b_AL_grow1 14 = .ok (.getstatic 39, 3) := by decide +kernel
theorem d_AL_grow1_17 : decode b_AL_grow1 17 = .ok (.if_acmp .eq 28, 3) := by decide +kernel
theorem d_AL_grow1_20 : decode b_AL_grow1 20 = .ok (.iload_n 2, 1) := by decide +kernel
theorem d_AL_grow1_21 : decode b_AL_grow1 21 = .ok (.iload_n 1, 1) := by decide +kernel
theorem d_AL_grow1_22 : decode b_AL_grow1 22 = .ok (.iload_n 2, 1) := by decide +kernel
theorem d_AL_grow1_23 : decode b_AL_grow1 23 = .ok (.isub, 1) := by decide +kernel
theorem d_AL_grow1_24 : decode b_AL_grow1 24 = .ok (.iload_n 2, 1) := by decide +kernel
theorem d_AL_grow1_25 : decode b_AL_grow1 25 = .ok (.iconst 1, 1) := by decide +kernel
theorem d_AL_grow1_26 : decode b_AL_grow1 26 = .ok (.ishr, 1) := by decide +kernel
theorem d_AL_grow1_27 : decode b_AL_grow1 27 = .ok (.invokestatic 73, 3) := by decide +kernel
theorem d_AL_grow1_30 : decode b_AL_grow1 30 = .ok (.istore_n 3, 1) := by decide +kernel
theorem d_AL_grow1_31 : decode b_AL_grow1 31 = .ok (.aload_n 0, 1) := by decide +kernel
theorem d_AL_grow1_32 : decode b_AL_grow1 32 = .ok (.aload_n 0, 1) := by decide +kernel
theorem d_AL_grow1_33 : decode b_AL_grow1 33 = .ok (.getfield 9, 3) := by decide +kernel
theorem d_AL_grow1_36 : decode b_AL_grow1 36 = .ok (.iload_n 3, 1) := by decide +kernel
theorem d_AL_grow1_37 : decode b_AL_grow1 37 = .ok (.invokestatic 66, 3) := by decide +kernel
theorem d_AL_grow1_40 : decode b_AL_grow1 40 = .ok (.dup_x1, 1) := by decide +kernel
theorem d_AL_grow1_41 : decode b_AL_grow1 41 = .ok (.putfield 9, 3) := by decide +kernel
theorem d_AL_grow1_44 : decode b_AL_grow1 44 = .ok (.areturn, 1) := by decide +kernel
theorem d_AL_grow1_45 : decode b_AL_grow1 45 = .ok (.aload_n 0, 1) := by decide +kernel
theorem d_AL_grow1_46 : decode b_AL_grow1 46 = .ok (.bipush 10, 2) := by decide +kernel
theorem d_AL_grow1_48 : decode b_AL_grow1 48 = .ok (.iload_n 1, 1) := by decide +kernel
theorem d_AL_grow1_49 : decode b_AL_grow1 49 = .ok (.invokestatic 79, 3) := by decide +kernel
theorem d_AL_grow1_52 : decode b_AL_grow1 52 = .ok (.anewarray 7, 3) := by decide +kernel
theorem d_AL_grow1_55 : decode b_AL_grow1 55 = .ok (.dup_x1, 1) := by decide +kernel
theorem d_AL_grow1_56 : decode b_AL_grow1 56 = .ok (.putfield 9, 3) := by decide +kernel
theorem d_AL_grow1_59 : decode b_AL_grow1 59 = .ok (.areturn, 1) := by decide +kernel
abbrev b_AL_remove : ByteArray := prog_31_method_29_code
def y_AL_remove : MethodName := ⟨"java/util/ArrayList", "remove", "(I)Ljava/lang/Object;"⟩
set_option maxRecDepth 20000 in
theorem Y_AL_remove : gh_Y y_AL_remove b_AL_remove 4 (some (.object "java/lang/Object")) 1 := ⟨gt_in (i := 822) rfl rfl, gt_in (i := 9) (by decide +kernel) rfl, by decide +kernel, by decide +kernel, by decide +kernel⟩
theorem V_AL_remove : Cond.instanceMethod y_AL_remove ∈ gTbl ∧ Cond.selects y_AL_remove.cls y_AL_remove y_AL_remove ∈ gTbl := ⟨(gt_in (i := 820) (by decide +kernel) rfl), (gt_in (i := 821) (by decide +kernel) rfl)⟩
theorem d_AL_remove_0 : decode b_AL_remove 0 = .ok (.iload_n 1, 1) := by decide +kernel
theorem d_AL_remove_1 : decode b_AL_remove 1 = .ok (.aload_n 0, 1) := by decide +kernel
theorem d_AL_remove_2 : decode b_AL_remove 2 = .ok (.getfield 48, 3) := by decide +kernel
theorem d_AL_remove_5 : decode b_AL_remove 5 = .ok (.invokestatic 118, 3) := by decide +kernel
theorem d_AL_remove_8 : decode b_AL_remove 8 = .ok (.pop, 1) := by decide +kernel
theorem d_AL_remove_9 : decode b_AL_remove 9 = .ok (.aload_n 0, 1) := by decide +kernel
theorem d_AL_remove_10 : decode b_AL_remove 10 = .ok (.getfield 9, 3) := by decide +kernel
theorem d_AL_remove_13 : decode b_AL_remove 13 = .ok (.astore_n 2, 1) := by decide +kernel
theorem d_AL_remove_14 : decode b_AL_remove 14 = .ok (.aload_n 2, 1) := by decide +kernel
theorem d_AL_remove_15 : decode b_AL_remove 15 = .ok (.iload_n 1, 1) := by decide +kernel
theorem d_AL_remove_16 : decode b_AL_remove 16 = .ok (.aaload, 1) := by decide +kernel
theorem d_AL_remove_17 : decode b_AL_remove 17 = .ok (.astore_n 3, 1) := by decide +kernel
theorem d_AL_remove_18 : decode b_AL_remove 18 = .ok (.aload_n 0, 1) := by decide +kernel
theorem d_AL_remove_19 : decode b_AL_remove 19 = .ok (.aload_n 2, 1) := by decide +kernel
theorem d_AL_remove_20 : decode b_AL_remove 20 = .ok (.iload_n 1, 1) := by decide +kernel
theorem d_AL_remove_21 : decode b_AL_remove 21 = .ok (.invokevirtual 144, 3) := by decide +kernel
theorem d_AL_remove_24 : decode b_AL_remove 24 = .ok (.aload_n 3, 1) := by decide +kernel
theorem d_AL_remove_25 : decode b_AL_remove 25 = .ok (.areturn, 1) := by decide +kernel
abbrev b_AL_fastRemove : ByteArray := prog_31_method_39_code
def y_AL_fastRemove : MethodName := ⟨"java/util/ArrayList", "fastRemove", "([Ljava/lang/Object;I)V"⟩
set_option maxRecDepth 20000 in
theorem Y_AL_fastRemove : gh_Y y_AL_fastRemove b_AL_fastRemove 4 none 2 := ⟨gt_in (i := 826) rfl rfl, gt_in (i := 9) (by decide +kernel) rfl, by decide +kernel, by decide +kernel, by decide +kernel⟩
theorem V_AL_fastRemove : Cond.instanceMethod y_AL_fastRemove ∈ gTbl ∧ Cond.selects y_AL_fastRemove.cls y_AL_fastRemove y_AL_fastRemove ∈ gTbl := ⟨(gt_in (i := 825) (by decide +kernel) rfl), (gt_sel (n := 3) (i := 9) (by decide +kernel))⟩
theorem d_AL_fastRemove_0 : decode b_AL_fastRemove 0 = .ok (.aload_n 0, 1) := by decide +kernel
theorem d_AL_fastRemove_1 : decode b_AL_fastRemove 1 = .ok (.dup, 1) := by decide +kernel
theorem d_AL_fastRemove_2 : decode b_AL_fastRemove 2 = .ok (.getfield 63, 3) := by decide +kernel
theorem d_AL_fastRemove_5 : decode b_AL_fastRemove 5 = .ok (.iconst 1, 1) := by decide +kernel
theorem d_AL_fastRemove_6 : decode b_AL_fastRemove 6 = .ok (.iadd, 1) := by decide +kernel
theorem d_AL_fastRemove_7 : decode b_AL_fastRemove 7 = .ok (.putfield 63, 3) := by decide +kernel
theorem d_AL_fastRemove_10 : decode b_AL_fastRemove 10 = .ok (.aload_n 0, 1) := by decide +kernel
theorem d_AL_fastRemove_11 : decode b_AL_fastRemove 11 = .ok (.getfield 48, 3) := by decide +kernel
theorem d_AL_fastRemove_14 : decode b_AL_fastRemove 14 = .ok (.iconst 1, 1) := by decide +kernel
theorem d_AL_fastRemove_15 : decode b_AL_fastRemove 15 = .ok (.isub, 1) := by decide +kernel
theorem d_AL_fastRemove_16 : decode b_AL_fastRemove 16 = .ok (.dup, 1) := by decide +kernel
theorem d_AL_fastRemove_17 : decode b_AL_fastRemove 17 = .ok (.istore_n 3, 1) := by decide +kernel
theorem d_AL_fastRemove_18 : decode b_AL_fastRemove 18 = .ok (.iload_n 2, 1) := by decide +kernel
theorem d_AL_fastRemove_19 : decode b_AL_fastRemove 19 = .ok (.if_icmp .le 15, 3) := by decide +kernel
theorem d_AL_fastRemove_22 : decode b_AL_fastRemove 22 = .ok (.aload_n 1, 1) := by decide +kernel
theorem d_AL_fastRemove_23 : decode b_AL_fastRemove 23 = .ok (.iload_n 2, 1) := by decide +kernel
theorem d_AL_fastRemove_24 : decode b_AL_fastRemove 24 = .ok (.iconst 1, 1) := by decide +kernel
theorem d_AL_fastRemove_25 : decode b_AL_fastRemove 25 = .ok (.iadd, 1) := by decide +kernel
theorem d_AL_fastRemove_26 : decode b_AL_fastRemove 26 = .ok (.aload_n 1, 1) := by decide +kernel
theorem d_AL_fastRemove_27 : decode b_AL_fastRemove 27 = .ok (.iload_n 2, 1) := by decide +kernel
theorem d_AL_fastRemove_28 : decode b_AL_fastRemove 28 = .ok (.iload_n 3, 1) := by decide +kernel
theorem d_AL_fastRemove_29 : decode b_AL_fastRemove 29 = .ok (.iload_n 2, 1) := by decide +kernel
theorem d_AL_fastRemove_30 : decode b_AL_fastRemove 30 = .ok (.isub, 1) := by decide +kernel
theorem d_AL_fastRemove_31 : decode b_AL_fastRemove 31 = .ok (.invokestatic 112, 3) := by decide +kernel
theorem d_AL_fastRemove_34 : decode b_AL_fastRemove 34 = .ok (.aload_n 1, 1) := by decide +kernel
theorem d_AL_fastRemove_35 : decode b_AL_fastRemove 35 = .ok (.aload_n 0, 1) := by decide +kernel
theorem d_AL_fastRemove_36 : decode b_AL_fastRemove 36 = .ok (.iload_n 3, 1) := by decide +kernel
theorem d_AL_fastRemove_37 : decode b_AL_fastRemove 37 = .ok (.dup_x1, 1) := by decide +kernel
theorem d_AL_fastRemove_38 : decode b_AL_fastRemove 38 = .ok (.putfield 48, 3) := by decide +kernel
theorem d_AL_fastRemove_41 : decode b_AL_fastRemove 41 = .ok (.aconst_null, 1) := by decide +kernel
theorem d_AL_fastRemove_42 : decode b_AL_fastRemove 42 = .ok (.aastore, 1) := by decide +kernel
theorem d_AL_fastRemove_43 : decode b_AL_fastRemove 43 = .ok (.return_, 1) := by decide +kernel
abbrev b_AL_add1 : ByteArray := prog_31_method_25_code
def y_AL_add1 : MethodName := ⟨"java/util/ArrayList", "add", "(Ljava/lang/Object;)Z"⟩
set_option maxRecDepth 20000 in
theorem Y_AL_add1 : gh_Y y_AL_add1 b_AL_add1 2 (some .boolean) 1 := ⟨gt_in (i := 869) rfl rfl, gt_in (i := 9) (by decide +kernel) rfl, by decide +kernel, by decide +kernel, by decide +kernel⟩
theorem V_AL_add1 : Cond.instanceMethod y_AL_add1 ∈ gTbl ∧ Cond.selects y_AL_add1.cls y_AL_add1 y_AL_add1 ∈ gTbl := ⟨(gt_in (i := 867) (by decide +kernel) rfl), (gt_in (i := 868) (by decide +kernel) rfl)⟩
theorem d_AL_add1_0 : decode b_AL_add1 0 = .ok (.aload_n 0, 1) := by decide +kernel
theorem d_AL_add1_1 : decode b_AL_add1 1 = .ok (.dup, 1) := by decide +kernel
theorem d_AL_add1_2 : decode b_AL_add1 2 = .ok (.getfield 63, 3) := by decide +kernel
theorem d_AL_add1_5 : decode b_AL_add1 5 = .ok (.iconst 1, 1) := by decide +kernel
theorem d_AL_add1_6 : decode b_AL_add1 6 = .ok (.iadd, 1) := by decide +kernel
theorem d_AL_add1_7 : decode b_AL_add1 7 = .ok (.putfield 63, 3) := by decide +kernel
theorem d_AL_add1_10 : decode b_AL_add1 10 = .ok (.aload_n 0, 1) := by decide +kernel
theorem d_AL_add1_11 : decode b_AL_add1 11 = .ok (.aload_n 1, 1) := by decide +kernel
theorem d_AL_add1_12 : decode b_AL_add1 12 = .ok (.aload_n 0, 1) := by decide +kernel
theorem d_AL_add1_13 : decode b_AL_add1 13 = .ok (.getfield 9, 3) := by decide +kernel
theorem d_AL_add1_16 : decode b_AL_add1 16 = .ok (.aload_n 0, 1) := by decide +kernel
theorem d_AL_add1_17 : decode b_AL_add1 17 = .ok (.getfield 48, 3) := by decide +kernel
theorem d_AL_add1_20 : decode b_AL_add1 20 = .ok (.invokevirtual 131, 3) := by decide +kernel
theorem d_AL_add1_23 : decode b_AL_add1 23 = .ok (.iconst 1, 1) := by decide +kernel
theorem d_AL_add1_24 : decode b_AL_add1 24 = .ok (.ireturn, 1) := by decide +kernel
abbrev b_AL_add2 : ByteArray := prog_31_method_24_code
def y_AL_add2 : MethodName := ⟨"java/util/ArrayList", "add", "(Ljava/lang/Object;[Ljava/lang/Object;I)V"⟩
set_option maxRecDepth 20000 in
theorem Y_AL_add2 : gh_Y y_AL_add2 b_AL_add2 4 none 3 := ⟨gt_in (i := 873) rfl rfl, gt_in (i := 9) (by decide +kernel) rfl, by decide +kernel, by decide +kernel, by decide +kernel⟩
theorem V_AL_add2 : Cond.instanceMethod y_AL_add2 ∈ gTbl ∧ Cond.selects y_AL_add2.cls y_AL_add2 y_AL_add2 ∈ gTbl := ⟨(gt_in (i := 872) (by decide +kernel) rfl), (gt_sel (n := 3) (i := 12) (by decide +kernel))⟩
theorem d_AL_add2_0 : decode b_AL_add2 0 = .ok (.iload_n 3, 1) := by decide +kernel
theorem d_AL_add2_1 : decode b_AL_add2 1 = .ok (.aload_n 2, 1) := by decide +kernel
theorem d_AL_add2_2 : decode b_AL_add2 2 = .ok (.arraylength, 1) := by decide +kernel
theorem d_AL_add2_3 : decode b_AL_add2 3 = .ok (.if_icmp .ne 8, 3) := by decide +kernel
theorem d_AL_add2_6 : decode b_AL_add2 6 = .ok (.aload_n 0, 1) := by decide +kernel
theorem d_AL_add2_7 : decode b_AL_add2 7 = .ok (.invokevirtual 129, 3) := by decide +kernel
theorem d_AL_add2_10 : decode b_AL_add2 10 = .ok (.astore_n 2, 1) := by decide +kernel
theorem d_AL_add2_11 : decode b_AL_add2 11 = .ok (.aload_n 2, 1) := by decide +kernel
theorem d_AL_add2_12 : decode b_AL_add2 12 = .ok (.iload_n 3, 1) := by decide +kernel
theorem d_AL_add2_13 : decode b_AL_add2 13 = .ok (.aload_n 1, 1) := by decide +kernel
theorem d_AL_add2_14 : decode b_AL_add2 14 = .ok (.aastore, 1) := by decide +kernel
theorem d_AL_add2_15 : decode b_AL_add2 15 = .ok (.aload_n 0, 1) := by decide +kernel
theorem d_AL_add2_16 : decode b_AL_add2 16 = .ok (.iload_n 3, 1) := by decide +kernel
theorem d_AL_add2_17 : decode b_AL_add2 17 = .ok (.iconst 1, 1) := by decide +kernel
theorem d_AL_add2_18 : decode b_AL_add2 18 = .ok (.iadd, 1) := by decide +kernel
theorem d_AL_add2_19 : decode b_AL_add2 19 = .ok (.putfield 48, 3) := by decide +kernel
theorem d_AL_add2_22 : decode b_AL_add2 22 = .ok (.return_, 1) := by decide +kernel
abbrev b_AL_clear : ByteArray := prog_31_method_40_code
def y_AL_clear : MethodName := ⟨"java/util/ArrayList", "clear", "()V"⟩
set_option maxRecDepth 20000 in
theorem Y_AL_clear : gh_Y y_AL_clear b_AL_clear 4 none 0 := ⟨gt_in (i := 1050) rfl rfl, gt_in (i := 9) (by decide +kernel) rfl, by decide +kernel, by decide +kernel, by decide +kernel⟩
theorem V_AL_clear : Cond.instanceMethod y_AL_clear ∈ gTbl ∧ Cond.selects y_AL_clear.cls y_AL_clear y_AL_clear ∈ gTbl := ⟨(gt_in (i := 1048) (by decide +kernel) rfl), (gt_in (i := 1049) (by decide +kernel) rfl)⟩
theorem d_AL_clear_0 : decode b_AL_clear 0 = .ok (.aload_n 0, 1) := by decide +kernel
theorem d_AL_clear_1 : decode b_AL_clear 1 = .ok (.dup, 1) := by decide +kernel
theorem d_AL_clear_2 : decode b_AL_clear 2 = .ok (.getfield 63, 3) := by decide +kernel
theorem d_AL_clear_5 : decode b_AL_clear 5 = .ok (.iconst 1, 1) := by decide +kernel
theorem d_AL_clear_6 : decode b_AL_clear 6 = .ok (.iadd, 1) := by decide +kernel
theorem d_AL_clear_7 : decode b_AL_clear 7 = .ok (.putfield 63, 3) := by decide +kernel
theorem d_AL_clear_10 : decode b_AL_clear 10 = .ok (.aload_n 0, 1) := by decide +kernel
theorem d_AL_clear_11 : decode b_AL_clear 11 = .ok (.getfield 9, 3) := by decide +kernel
theorem d_AL_clear_14 : decode b_AL_clear 14 = .ok (.astore_n 1, 1) := by decide +kernel
theorem d_AL_clear_15 : decode b_AL_clear 15 = .ok (.aload_n 0, 1) := by decide +kernel
theorem d_AL_clear_16 : decode b_AL_clear 16 = .ok (.getfield 48, 3) := by decide +kernel
theorem d_AL_clear_19 : decode b_AL_clear 19 = .ok (.istore_n 2, 1) := by decide +kernel
theorem d_AL_clear_20 : decode b_AL_clear 20 = .ok (.aload_n 0, 1) := by decide +kernel
theorem d_AL_clear_21 : decode b_AL_clear 21 = .ok (.iconst 0, 1) := by decide +kernel
theorem d_AL_clear_22 : decode b_AL_clear 22 = .ok (.dup_x1, 1) := by decide +kernel
theorem d_AL_clear_23 : decode b_AL_clear 23 = .ok (.putfield 48, 3) := by decide +kernel
theorem d_AL_clear_26 : decode b_AL_clear 26 = .ok (.istore_n 3, 1) := by decide +kernel
theorem d_AL_clear_27 : decode b_AL_clear 27 = .ok (.iload_n 3, 1) := by decide +kernel
theorem d_AL_clear_28 : decode b_AL_clear 28 = .ok (.iload_n 2, 1) := by decide +kernel
theorem d_AL_clear_29 : decode b_AL_clear 29 = .ok (.if_icmp .ge 13, 3) := by decide +kernel
theorem d_AL_clear_32 : decode b_AL_clear 32 = .ok (.aload_n 1, 1) := by decide +kernel
theorem d_AL_clear_33 : decode b_AL_clear 33 = .ok (.iload_n 3, 1) := by decide +kernel
theorem d_AL_clear_34 : decode b_AL_clear 34 = .ok (.aconst_null, 1) := by decide +kernel
theorem d_AL_clear_35 : decode b_AL_clear 35 = .ok (.aastore, 1) := by decide +kernel
theorem d_AL_clear_36 : decode b_AL_clear 36 = .ok (.iinc 3 1, 3) := by decide +kernel
theorem d_AL_clear_39 : decode b_AL_clear 39 = .ok (.goto (-12), 3) := by decide +kernel
theorem d_AL_clear_42 : decode b_AL_clear 42 = .ok (.return_, 1) := by decide +kernel
theorem kf_AL_9 : Cond.fieldLink "java/util/ArrayList" 9 "java/util/ArrayList" "elementData" "[Ljava/lang/Object;" ∈ gTbl := (gt_in (i := 123) (by decide +kernel) rfl)
theorem kf_AL_39 : Cond.fieldLink "java/util/ArrayList" 39 "java/util/ArrayList" "DEFAULTCAPACITY_EMPTY_ELEMENTDATA" "[Ljava/lang/Object;" ∈ gTbl := (gt_in (i := 121) (by decide +kernel) rfl)
theorem kf_AL_48 : Cond.fieldLink "java/util/ArrayList" 48 "java/util/ArrayList" "size" "I" ∈ gTbl := (gt_in (i := 124) (by decide +kernel) rfl)
theorem kf_AL_63 : Cond.fieldLink "java/util/ArrayList" 63 "java/util/ArrayList" "modCount" "I" ∈ gTbl := (gt_in (i := 126) (by decide +kernel) rfl)
theorem kc_AL_7 : Cond.classLink "java/util/ArrayList" 7 "java/lang/Object" ∈ gTbl := (gt_in (i := 788) (by decide +kernel) rfl)
theorem kc_AL_187 : Cond.classLink "java/util/ArrayList" 187 "java/lang/IndexOutOfBoundsException" ∈ gTbl := (gt_in (i := 467) (by decide +kernel) rfl)
theorem km_AL_1 : Cond.methodLink "java/util/ArrayList" 1 ⟨"java/util/AbstractList", "<init>", "()V"⟩ ∈ gTbl := (gt_in (i := 114) (by decide +kernel) rfl)
theorem km_AL_66 : Cond.methodLink "java/util/ArrayList" 66 ⟨"java/util/Arrays", "copyOf", "([Ljava/lang/Object;I)[Ljava/lang/Object;"⟩ ∈ gTbl := (gt_in (i := 758) (by decide +kernel) rfl)
theorem km_AL_69 : Cond.methodLink "java/util/ArrayList" 69 ⟨"java/util/ArrayList", "grow", "(I)[Ljava/lang/Object;"⟩ ∈ gTbl := (gt_in (i := 753) (by decide +kernel) rfl)
theorem km_AL_73 : Cond.methodLink "java/util/ArrayList" 73 ⟨"jdk/internal/util/ArraysSupport", "newLength", "(III)I"⟩ ∈ gTbl := (gt_in (i := 757) (by decide +kernel) rfl)
theorem km_AL_79 : Cond.methodLink "java/util/ArrayList" 79 ⟨"java/lang/Math", "max", "(II)I"⟩ ∈ gTbl := (gt_in (i := 787) (by decide +kernel) rfl)
theorem km_AL_112 : Cond.methodLink "java/util/ArrayList" 112 ⟨"java/lang/System", "arraycopy", "(Ljava/lang/Object;ILjava/lang/Object;II)V"⟩ ∈ gTbl := (gt_in (i := 789) (by decide +kernel) rfl)
theorem km_AL_118 : Cond.methodLink "java/util/ArrayList" 118 ⟨"java/util/Objects", "checkIndex", "(II)I"⟩ ∈ gTbl := (gt_in (i := 385) (by decide +kernel) rfl)
theorem km_AL_123 : Cond.methodLink "java/util/ArrayList" 123 ⟨"java/util/ArrayList", "elementData", "(I)Ljava/lang/Object;"⟩ ∈ gTbl := (gt_in (i := 389) (by decide +kernel) rfl)
theorem km_AL_129 : Cond.methodLink "java/util/ArrayList" 129 ⟨"java/util/ArrayList", "grow", "()[Ljava/lang/Object;"⟩ ∈ gTbl := (gt_in (i := 749) (by decide +kernel) rfl)
theorem km_AL_131 : Cond.methodLink "java/util/ArrayList" 131 ⟨"java/util/ArrayList", "add", "(Ljava/lang/Object;[Ljava/lang/Object;I)V"⟩ ∈ gTbl := (gt_in (i := 870) (by decide +kernel) rfl)
theorem km_AL_135 : Cond.methodLink "java/util/ArrayList" 135 ⟨"java/util/ArrayList", "rangeCheckForAdd", "(I)V"⟩ ∈ gTbl := (gt_in (i := 463) (by decide +kernel) rfl)
theorem km_AL_144 : Cond.methodLink "java/util/ArrayList" 144 ⟨"java/util/ArrayList", "fastRemove", "([Ljava/lang/Object;I)V"⟩ ∈ gTbl := (gt_in (i := 823) (by decide +kernel) rfl)
theorem km_AL_193 : Cond.methodLink "java/util/ArrayList" 193 ⟨"java/lang/IndexOutOfBoundsException", "<init>", "(Ljava/lang/String;)V"⟩ ∈ gTbl := (gt_in (i := 724) (by decide +kernel) rfl)
theorem km_AL_198 : Cond.methodLink "java/util/ArrayList" 198 ⟨"java/util/ArrayList", "outOfBoundsMsg", "(I)Ljava/lang/String;"⟩ ∈ gTbl := (gt_in (i := 507) (by decide +kernel) rfl)
abbrev b_AbL_init : ByteArray := prog_30_method_1_code
def y_AbL_init : MethodName := ⟨"java/util/AbstractList", "<init>", "()V"⟩
set_option maxRecDepth 20000 in
theorem Y_AbL_init : gh_Y y_AbL_init b_AbL_init 1 none 0 := ⟨gt_in (i := 116) rfl rfl, gt_in (i := 8) (by decide +kernel) rfl, by decide +kernel, by decide +kernel, by decide +kernel⟩
theorem V_AbL_init : Cond.instanceMethod y_AbL_init ∈ gTbl := (gt_in (i := 115) (by decide +kernel) rfl)
theorem d_AbL_init_0 : decode b_AbL_init 0 = .ok (.aload_n 0, 1) := by decide +kernel
theorem d_AbL_init_1 : decode b_AbL_init 1 = .ok (.invokespecial 1, 3) := by decide +kernel
theorem d_AbL_init_4 : decode b_AbL_init 4 = .ok (.aload_n 0, 1) := by decide +kernel
theorem d_AbL_init_5 : decode b_AbL_init 5 = .ok (.iconst 0, 1) := by decide +kernel
theorem d_AbL_init_6 : decode b_AbL_init 6 = .ok (.putfield 7, 3) := by decide +kernel
theorem d_AbL_init_9 : decode b_AbL_init 9 = .ok (.return_, 1) := by decide +kernel
theorem kf_AbL_7 : Cond.fieldLink "java/util/AbstractList" 7 "java/util/AbstractList" "modCount" "I" ∈ gTbl := (gt_in (i := 125) (by decide +kernel) rfl)
theorem km_AbL_1 : Cond.methodLink "java/util/AbstractList" 1 ⟨"java/util/AbstractCollection", "<init>", "()V"⟩ ∈ gTbl := (gt_in (i := 117) (by decide +kernel) rfl)
abbrev b_AbC_init : ByteArray := prog_29_method_1_code
def y_AbC_init : MethodName := ⟨"java/util/AbstractCollection", "<init>", "()V"⟩
set_option maxRecDepth 20000 in
theorem Y_AbC_init : gh_Y y_AbC_init b_AbC_init 1 none 0 := ⟨gt_in (i := 119) rfl rfl, gt_in (i := 7) (by decide +kernel) rfl, by decide +kernel, by decide +kernel, by decide +kernel⟩
theorem V_AbC_init : Cond.instanceMethod y_AbC_init ∈ gTbl := (gt_in (i := 118) (by decide +kernel) rfl)
theorem d_AbC_init_0 : decode b_AbC_init 0 = .ok (.aload_n 0, 1) := by decide +kernel
theorem d_AbC_init_1 : decode b_AbC_init 1 = .ok (.invokespecial 1, 3) := by decide +kernel
theorem d_AbC_init_4 : decode b_AbC_init 4 = .ok (.return_, 1) := by decide +kernel
theorem km_AbC_1 : Cond.methodLink "java/util/AbstractCollection" 1 ⟨"java/lang/Object", "<init>", "()V"⟩ ∈ gTbl := (gt_in (i := 120) (by decide +kernel) rfl)
abbrev b_Obs_checkIndex : ByteArray := prog_35_method_17_code
def y_Obs_checkIndex : MethodName := ⟨"java/util/Objects", "checkIndex", "(II)I"⟩
set_option maxRecDepth 20000 in
theorem Y_Obs_checkIndex : gh_Y y_Obs_checkIndex b_Obs_checkIndex 2 (some .int) 2 := ⟨gt_in (i := 387) rfl rfl, gt_in (i := 23) (by decide +kernel) rfl, by decide +kernel, by decide +kernel, by decide +kernel⟩
theorem V_Obs_checkIndex : Cond.static y_Obs_checkIndex ∈ gTbl := (gt_in (i := 386) (by decide +kernel) rfl)
theorem d_Obs_checkIndex_0 : decode b_Obs_checkIndex 0 = .ok (.iload_n 0, 1) := by decide +kernel
theorem d_Obs_checkIndex_1 : decode b_Obs_checkIndex 1 = .ok (.iload_n 1, 1) := by decide +kernel
theorem d_Obs_checkIndex_2 : decode b_Obs_checkIndex 2 = .ok (.aconst_null, 1) := by decide +kernel
theorem d_Obs_checkIndex_3 : decode b_Obs_checkIndex 3 = .ok (.invokestatic 105, 3) := by decide +kernel
theorem d_Obs_checkIndex_6 : decode b_Obs_checkIndex 6 = .ok (.ireturn, 1) := by decide +kernel
theorem km_Obs_105 : Cond.methodLink "java/util/Objects" 105 ⟨"jdk/internal/util/Preconditions", "checkIndex", "(IILjava/util/function/BiFunction;)I"⟩ ∈ gTbl := (gt_in (i := 388) (by decide +kernel) rfl)
abbrev b_Ars_copyOf1 : ByteArray := prog_32_method_119_code
def y_Ars_copyOf1 : MethodName := ⟨"java/util/Arrays", "copyOf", "([Ljava/lang/Object;I)[Ljava/lang/Object;"⟩
set_option maxRecDepth 20000 in
theorem Y_Ars_copyOf1 : gh_Y y_Ars_copyOf1 b_Ars_copyOf1 2 (some (.array (.object "java/lang/Object"))) 2 := ⟨gt_in (i := 760) rfl rfl, gt_in (i := 29) (by decide +kernel) rfl, by decide +kernel, by decide +kernel, by decide +kernel⟩
theorem V_Ars_copyOf1 : Cond.static y_Ars_copyOf1 ∈ gTbl := (gt_in (i := 759) (by decide +kernel) rfl)
theorem d_Ars_copyOf1_0 : decode b_Ars_copyOf1 0 = .ok (.aload_n 0, 1) := by decide +kernel
theorem d_Ars_copyOf1_1 : decode b_Ars_copyOf1 1 = .ok (.iload_n 1, 1) := by decide +kernel
theorem d_Ars_copyOf1_2 : decode b_Ars_copyOf1 2 = .ok (.aload_n 0, 1) := by decide +kernel
theorem d_Ars_copyOf1_3 : decode b_Ars_copyOf1 3 = .ok (.invokevirtual 86, 3) := by decide +kernel
theorem d_Ars_copyOf1_6 : decode b_Ars_copyOf1 6 = .ok (.invokestatic 300, 3) := by decide +kernel
theorem d_Ars_copyOf1_9 : decode b_Ars_copyOf1 9 = .ok (.areturn, 1) := by decide +kernel
abbrev b_Ars_copyOf2 : ByteArray := prog_32_method_120_code
def y_Ars_copyOf2 : MethodName := ⟨"java/util/Arrays", "copyOf", "([Ljava/lang/Object;ILjava/lang/Class;)[Ljava/lang/Object;"⟩
set_option maxRecDepth 20000 in
theorem Y_Ars_copyOf2 : gh_Y y_Ars_copyOf2 b_Ars_copyOf2 4 (some (.array (.object "java/lang/Object"))) 3 := ⟨gt_in (i := 783) rfl rfl, gt_in (i := 29) (by decide +kernel) rfl, by decide +kernel, by decide +kernel, by decide +kernel⟩
theorem V_Ars_copyOf2 : Cond.static y_Ars_copyOf2 ∈ gTbl := (gt_in (i := 782) (by decide +kernel) rfl)
theorem d_Ars_copyOf2_0 : decode b_Ars_copyOf2 0 = .ok (.aload_n 2, 1) := by decide +kernel
theorem d_Ars_copyOf2_1 : decode b_Ars_copyOf2 1 = .ok (.ldc 110, 2) := by decide +kernel
theorem d_Ars_copyOf2_3 : decode b_Ars_copyOf2 3 = .ok (.if_acmp .ne 10, 3) := by decide +kernel
theorem d_Ars_copyOf2_6 : decode b_Ars_copyOf2 6 = .ok (.iload_n 1, 1) := by decide +kernel
theorem d_Ars_copyOf2_7 : decode b_Ars_copyOf2 7 = .ok (.anewarray 2, 3) := by decide +kernel
theorem d_Ars_copyOf2_10 : decode b_Ars_copyOf2 10 = .ok (.goto 14, 3) := by decide +kernel
theorem d_Ars_copyOf2_13 : decode b_Ars_copyOf2 13 = .ok (.aload_n 2, 1) := by decide +kernel
theorem d_Ars_copyOf2_14 : decode b_Ars_copyOf2 14 = .ok (.invokevirtual 90, 3) := by decide +kernel
theorem d_Ars_copyOf2_17 : decode b_Ars_copyOf2 17 = .ok (.iload_n 1, 1) := by decide +kernel
theorem d_Ars_copyOf2_18 : decode b_Ars_copyOf2 18 = .ok (.invokestatic 95, 3) := by decide +kernel
theorem d_Ars_copyOf2_21 : decode b_Ars_copyOf2 21 = .ok (.checkcast 110, 3) := by decide +kernel
theorem d_Ars_copyOf2_24 : decode b_Ars_copyOf2 24 = .ok (.astore_n 3, 1) := by decide +kernel
theorem d_Ars_copyOf2_25 : decode b_Ars_copyOf2 25 = .ok (.aload_n 0, 1) := by decide +kernel
theorem d_Ars_copyOf2_26 : decode b_Ars_copyOf2 26 = .ok (.iconst 0, 1) := by decide +kernel
theorem d_Ars_copyOf2_27 : decode b_Ars_copyOf2 27 = .ok (.aload_n 3, 1) := by decide +kernel
theorem d_Ars_copyOf2_28 : decode b_Ars_copyOf2 28 = .ok (.iconst 0, 1) := by decide +kernel
theorem d_Ars_copyOf2_29 : decode b_Ars_copyOf2 29 = .ok (.aload_n 0, 1) := by decide +kernel
theorem d_Ars_copyOf2_30 : decode b_Ars_copyOf2 30 = .ok (.arraylength, 1) := by decide +kernel
theorem d_Ars_copyOf2_31 : decode b_Ars_copyOf2 31 = .ok (.iload_n 1, 1) := by decide +kernel
theorem d_Ars_copyOf2_32 : decode b_Ars_copyOf2 32 = .ok (.invokestatic 304, 3) := by decide +kernel
theorem d_Ars_copyOf2_35 : decode b_Ars_copyOf2 35 = .ok (.invokestatic 150, 3) := by decide +kernel
theorem d_Ars_copyOf2_38 : decode b_Ars_copyOf2 38 = .ok (.aload_n 3, 1) := by decide +kernel
theorem d_Ars_copyOf2_39 : decode b_Ars_copyOf2 39 = .ok (.areturn, 1) := by decide +kernel
theorem kc_Ars_2 : Cond.classLink "java/util/Arrays" 2 "java/lang/Object" ∈ gTbl := (gt_in (i := 786) (by decide +kernel) rfl)
theorem kc_Ars_110 : Cond.classLink "java/util/Arrays" 110 "[Ljava/lang/Object;" ∈ gTbl := (gt_in (i := 784) (by decide +kernel) rfl)
theorem km_Ars_86 : Cond.methodLink "java/util/Arrays" 86 ⟨"java/lang/Object", "getClass", "()Ljava/lang/Class;"⟩ ∈ gTbl := (gt_in (i := 761) (by decide +kernel) rfl)
theorem km_Ars_150 : Cond.methodLink "java/util/Arrays" 150 ⟨"java/lang/System", "arraycopy", "(Ljava/lang/Object;ILjava/lang/Object;II)V"⟩ ∈ gTbl := (gt_in (i := 583) (by decide +kernel) rfl)
theorem km_Ars_300 : Cond.methodLink "java/util/Arrays" 300 ⟨"java/util/Arrays", "copyOf", "([Ljava/lang/Object;ILjava/lang/Class;)[Ljava/lang/Object;"⟩ ∈ gTbl := (gt_in (i := 781) (by decide +kernel) rfl)
theorem km_Ars_304 : Cond.methodLink "java/util/Arrays" 304 ⟨"java/lang/Math", "min", "(II)I"⟩ ∈ gTbl := (gt_in (i := 580) (by decide +kernel) rfl)
abbrev b_ArS_newLength : ByteArray := prog_38_method_27_code
def y_ArS_newLength : MethodName := ⟨"jdk/internal/util/ArraysSupport", "newLength", "(III)I"⟩
set_option maxRecDepth 20000 in
theorem Y_ArS_newLength : gh_Y y_ArS_newLength b_ArS_newLength 4 (some .int) 3 := ⟨gt_in (i := 563) rfl rfl, gt_in (i := 28) (by decide +kernel) rfl, by decide +kernel, by decide +kernel, by decide +kernel⟩
theorem V_ArS_newLength : Cond.static y_ArS_newLength ∈ gTbl := (gt_in (i := 562) (by decide +kernel) rfl)
theorem d_ArS_newLength_0 : decode b_ArS_newLength 0 = .ok (.iload_n 0, 1) := by decide +kernel
theorem d_ArS_newLength_1 : decode b_ArS_newLength 1 = .ok (.iload_n 1, 1) := by decide +kernel
theorem d_ArS_newLength_2 : decode b_ArS_newLength 2 = .ok (.iload_n 2, 1) := by decide +kernel
theorem d_ArS_newLength_3 : decode b_ArS_newLength 3 = .ok (.invokestatic 194, 3) := by decide +kernel
theorem d_ArS_newLength_6 : decode b_ArS_newLength 6 = .ok (.iadd, 1) := by decide +kernel
theorem d_ArS_newLength_7 : decode b_ArS_newLength 7 = .ok (.istore_n 3, 1) := by decide +kernel
theorem d_ArS_newLength_8 : decode b_ArS_newLength 8 = .ok (.iconst 0, 1) := by decide +kernel
theorem d_ArS_newLength_9 : decode b_ArS_newLength 9 = .ok (.iload_n 3, 1) := by decide +kernel
theorem d_ArS_newLength_10 : decode b_ArS_newLength 10 = .ok (.if_icmp .ge 11, 3) := by decide +kernel
theorem d_ArS_newLength_13 : decode b_ArS_newLength 13 = .ok (.iload_n 3, 1) := by decide +kernel
theorem d_ArS_newLength_14 : decode b_ArS_newLength 14 = .ok (.ldc 200, 2) := by decide +kernel
theorem d_ArS_newLength_16 : decode b_ArS_newLength 16 = .ok (.if_icmp .gt 5, 3) := by decide +kernel
theorem d_ArS_newLength_19 : decode b_ArS_newLength 19 = .ok (.iload_n 3, 1) := by decide +kernel
theorem d_ArS_newLength_20 : decode b_ArS_newLength 20 = .ok (.ireturn, 1) := by decide +kernel
theorem d_ArS_newLength_21 : decode b_ArS_newLength 21 = .ok (.iload_n 0, 1) := by decide +kernel
theorem d_ArS_newLength_22 : decode b_ArS_newLength 22 = .ok (.iload_n 1, 1) := by decide +kernel
theorem d_ArS_newLength_23 : decode b_ArS_newLength 23 = .ok (.invokestatic 201, 3) := by decide +kernel
theorem d_ArS_newLength_26 : decode b_ArS_newLength 26 = .ok (.ireturn, 1) := by decide +kernel
theorem km_ArS_194 : Cond.methodLink "jdk/internal/util/ArraysSupport" 194 ⟨"java/lang/Math", "max", "(II)I"⟩ ∈ gTbl := (gt_in (i := 564) (by decide +kernel) rfl)
theorem km_ArS_201 : Cond.methodLink "jdk/internal/util/ArraysSupport" 201 ⟨"jdk/internal/util/ArraysSupport", "hugeLength", "(II)I"⟩ ∈ gTbl := (gt_in (i := 566) (by decide +kernel) rfl)
abbrev b_Mt_min : ByteArray := prog_21_method_69_code
def y_Mt_min : MethodName := ⟨"java/lang/Math", "min", "(II)I"⟩
set_option maxRecDepth 20000 in
theorem Y_Mt_min : gh_Y y_Mt_min b_Mt_min 2 (some .int) 2 := ⟨gt_in (i := 582) rfl rfl, gt_in (i := 3) (by decide +kernel) rfl, by decide +kernel, by decide +kernel, by decide +kernel⟩
theorem V_Mt_min : Cond.static y_Mt_min ∈ gTbl := (gt_in (i := 581) (by decide +kernel) rfl)
theorem d_Mt_min_0 : decode b_Mt_min 0 = .ok (.iload_n 0, 1) := by decide +kernel
theorem d_Mt_min_1 : decode b_Mt_min 1 = .ok (.iload_n 1, 1) := by decide +kernel
theorem d_Mt_min_2 : decode b_Mt_min 2 = .ok (.if_icmp .gt 7, 3) := by decide +kernel
theorem d_Mt_min_5 : decode b_Mt_min 5 = .ok (.iload_n 0, 1) := by decide +kernel
theorem d_Mt_min_6 : decode b_Mt_min 6 = .ok (.goto 4, 3) := by decide +kernel
theorem d_Mt_min_9 : decode b_Mt_min 9 = .ok (.iload_n 1, 1) := by decide +kernel
theorem d_Mt_min_10 : decode b_Mt_min 10 = .ok (.ireturn, 1) := by decide +kernel
end
section
/-! ARRAYLISTS of entries, or of rules -/
def AlA (G : GG) (g : GH) (la tl to oa N : Nat) (mo : Int32) (f : Nat → Option Nat) (rs : List Nat) : Prop := g la = some (tl, .inr (11, [.int mo, .ref oa, .int (nI rs.length)])) ∧ ((N = 0 ∧ oa = G.2.2.2.2.1) ∨ (10 ≤ N ∧ g oa = some (to, qArr G N f))) ∧ rs.length ≤ N ∧ N ≤ 450 ∧ ∀ i r, rs[i]? = some r → f i = some r
def Al (G : GG) (g : GH) (la tl to : Nat) (rs : List Nat) : Prop := ∃ oa N mo f, AlA G g la tl to oa N mo f rs
/-- the listed objects are of the class ci -/
def AlC (g : GH) (ci : Nat) (rs : List Nat) : Prop := ∀ r, r ∈ rs → ∃ t fs, g r = some (t, .inr (ci, fs))
theorem Al.M {G : GG} {g g' : GH} {la tl to : Nat} {rs : List Nat} {S : List Nat} (h : Al G g la tl to rs) (hM : gh_M S g g') (h1 : tl ∉ S) (h2 : to ∉ S) : Al G g' la tl to rs := by
  obtain ⟨oa, N, mo, f, k1, k2, k3⟩ := h
  exact ⟨oa, N, mo, f, hM la tl _ k1 h1, k2.imp id (fun q => ⟨q.1, hM oa to _ q.2 h2⟩), k3⟩
theorem Al.ob {G : GG} {g : GH} {la tl to : Nat} {rs : List Nat} (h : Al G g la tl to rs) : ∃ fs, g la = some (tl, .inr (11, fs)) := by
  obtain ⟨oa, N, mo, f, k1, k2, k3⟩ := h
  exact ⟨_, k1⟩
theorem Al.len {G : GG} {g : GH} {la tl to : Nat} {rs : List Nat} (h : Al G g la tl to rs) : rs.length ≤ 450 := by
  obtain ⟨oa, N, mo, f, k1, k2, k3, k4, k5⟩ := h
  omega
set_option maxRecDepth 20000 in
set_option maxHeartbeats 4000000 in
theorem c_AL_size (l : Launch) (G : GG) {g : GH} {la tl to : Nat} {rs : List Nat} (h : Al G g la tl to rs) : gMet l G y_AL_size b_AL_size 1 (some .int) (rmk 0 0 0 0) [.ref la] g (fun v g' => v = some (.int (nI rs.length)) ∧ g' = g) := by
  refine gMet.of [some (.ref la)] (by decide +kernel) rfl (Nat.le_of_ble_eq_true rfl) rfl (fun X hK hI hE => ?_)
  obtain ⟨oa, N, mo, f, k1, k2, k3, k4, k5⟩ := h
  refine gh_aload_n hK d_AL_size_0 rfl ?_
  refine gh_get hK d_AL_size_1 in_AL rfl k1 2 (by decide) kf_AL_48 rfl rfl ?_
  exact gh_iret hK hE d_AL_size_4 (Nat.le_of_ble_eq_true rfl) (Nat.le_of_ble_eq_true rfl) ⟨rfl, rfl⟩
set_option maxRecDepth 20000 in
set_option maxHeartbeats 4000000 in
theorem c_Obs_checkIndex (l : Launch) (G : GG) {g : GH} {i j : Nat} (hi : i < j) (hj : j < 2 ^ 31) : gMet l G y_Obs_checkIndex b_Obs_checkIndex 2 (some .int) (rmk 1 0 0 22) [.int (nI i), .int (nI j)] g (fun v g' => v = some (.int (nI i)) ∧ g' = g) := by
  refine gMet.of [some (.int (nI i)), some (.int (nI j))] (by decide +kernel) rfl (Nat.le_of_ble_eq_true rfl) rfl (fun X hK hI hE => ?_)
  refine gh_iload_n hK d_Obs_checkIndex_0 rfl ?_
  refine gh_iload_n hK d_Obs_checkIndex_1 rfl ?_
  refine gh_null hK d_Obs_checkIndex_2 ?_
  refine gh_callS (rest := []) [.int (nI i), .int (nI j), .null] hK (c_Pre_checkIndex l G (g := g) (Or.inl rfl) hi hj) Y_Pre_checkIndex V_Pre_checkIndex km_Obs_105 rfl d_Obs_checkIndex_3 rfl rfl (Nat.le_of_ble_eq_true rfl) ⟨(Nat.le_of_ble_eq_true rfl), (Nat.le_of_ble_eq_true rfl)⟩ ⟨(Nat.le_of_ble_eq_true rfl), (Nat.le_of_ble_eq_true rfl)⟩ (fun v g' hp => ?_)
  rw [hp.1, hp.2]
  show gh_W l G _ X g _ _ [some (.int (nI i)), some (.int (nI j))] 6 [.int (nI i)]
  exact gh_iret hK hE d_Obs_checkIndex_6 (Nat.le_of_ble_eq_true rfl) (Nat.le_of_ble_eq_true rfl) ⟨rfl, rfl⟩
set_option maxRecDepth 20000 in
set_option maxHeartbeats 4000000 in
theorem c_AL_elementData (l : Launch) (G : GG) {g : GH} {la tl to : Nat} {rs : List Nat} {j r : Nat} (h : Al G g la tl to rs) (hj : rs[j]? = some r) : gMet l G y_AL_elementData b_AL_elementData 2 (some (.object "java/lang/Object")) (rmk 0 0 0 0) [.ref la, .int (nI j)] g (fun v g' => v = some (.ref r) ∧ g' = g) := by
  refine gMet.of [some (.ref la), some (.int (nI j))] (by decide +kernel) rfl (Nat.le_of_ble_eq_true rfl) rfl (fun X hK hI hE => ?_)
  obtain ⟨oa, N, mo, f, k1, k2, k3, k4, k5⟩ := h
  have hlt := (List.getElem?_eq_some_iff.mp hj).1
  obtain ⟨k6, k7⟩ : 10 ≤ N ∧ g oa = some (to, qArr G N f) := k2.resolve_left (fun q => by omega)
  refine gh_aload_n hK d_AL_elementData_0 rfl ?_
  refine gh_get hK d_AL_elementData_1 in_AL rfl k1 1 (by decide) kf_AL_9 rfl rfl ?_
  refine gh_iload_n hK d_AL_elementData_4 rfl ?_
  refine gh_aaldN (j := j) hK d_AL_elementData_5 k7 (by omega) (by omega) ?_
  rw [k5 j r hj]
  exact gh_aret (Or.inl ⟨_, rfl⟩) (Or.inr ⟨_, rfl⟩) hK hE d_AL_elementData_6 (Nat.le_of_ble_eq_true rfl) (Nat.le_of_ble_eq_true rfl) ⟨rfl, rfl⟩
set_option maxRecDepth 20000 in
set_option maxHeartbeats 4000000 in
theorem c_AL_get (l : Launch) (G : GG) {g : GH} {la tl to : Nat} {rs : List Nat} {j r : Nat} (h : Al G g la tl to rs) (hj : rs[j]? = some r) : gMet l G y_AL_get b_AL_get 2 (some (.object "java/lang/Object")) (rmk 2 0 0 43) [.ref la, .int (nI j)] g (fun v g' => v = some (.ref r) ∧ g' = g) := by
  refine gMet.of [some (.ref la), some (.int (nI j))] (by decide +kernel) rfl (Nat.le_of_ble_eq_true rfl) rfl (fun X hK hI hE => ?_)
  have hlt := (List.getElem?_eq_some_iff.mp hj).1
  have hlen := h.len
  have hh := h
  obtain ⟨oa, N, mo, f, k1, k2, k3, k4, k5⟩ := h
  refine gh_iload_n hK d_AL_get_0 rfl ?_
  refine gh_aload_n hK d_AL_get_1 rfl ?_
  refine gh_get hK d_AL_get_2 in_AL rfl k1 2 (by decide) kf_AL_48 rfl rfl ?_
  refine gh_callS (rest := []) [.int (nI j), .int (nI rs.length)] hK (c_Obs_checkIndex l G (g := g) hlt (by omega)) Y_Obs_checkIndex V_Obs_checkIndex km_AL_118 rfl d_AL_get_5 rfl rfl (Nat.le_of_ble_eq_true rfl) ⟨(Nat.le_of_ble_eq_true rfl), (Nat.le_of_ble_eq_true rfl)⟩ ⟨(Nat.le_of_ble_eq_true rfl), (Nat.le_of_ble_eq_true rfl)⟩ (fun v g' hp => ?_)
  rw [hp.1, hp.2]
  show gh_W l G _ X g _ _ [some (.ref la), some (.int (nI j))] 8 [.int (nI j)]
  refine gh_pop hK d_AL_get_8 rfl ?_
  refine gh_aload_n hK d_AL_get_9 rfl ?_
  refine gh_iload_n hK d_AL_get_10 rfl ?_
  refine gh_callV (rest := []) [.int (nI j)] hK (c_AL_elementData l G hh hj) Y_AL_elementData V_AL_elementData km_AL_123 k1 rfl rfl d_AL_get_11 rfl rfl (Nat.le_of_ble_eq_true rfl) ⟨(Nat.le_of_ble_eq_true rfl), (Nat.le_of_ble_eq_true rfl)⟩ ⟨(Nat.le_of_ble_eq_true rfl), (Nat.le_of_ble_eq_true rfl)⟩ (fun v g' hp => ?_)
  rw [hp.1, hp.2]
  show gh_W l G _ X g _ _ [some (.ref la), some (.int (nI j))] 14 [.ref r]
  exact gh_aret (Or.inl ⟨_, rfl⟩) (Or.inr ⟨_, rfl⟩) hK hE d_AL_get_14 (Nat.le_of_ble_eq_true rfl) (Nat.le_of_ble_eq_true rfl) ⟨rfl, rfl⟩
set_option maxRecDepth 20000 in
set_option maxHeartbeats 4000000 in
theorem c_Mt_min (l : Launch) (G : GG) {g : GH} {i j : Nat} (hi : i < 2 ^ 31) (hj : j < 2 ^ 31) : gMet l G y_Mt_min b_Mt_min 2 (some .int) (rmk 0 0 0 0) [.int (nI i), .int (nI j)] g (fun v g' => v = some (.int (nI (if i ≤ j then i else j))) ∧ g' = g) := by
  refine gMet.of [some (.int (nI i)), some (.int (nI j))] (by decide +kernel) rfl (Nat.le_of_ble_eq_true rfl) rfl (fun X hK hI hE => ?_)
  refine gh_iload_n hK d_Mt_min_0 rfl ?_
  refine gh_iload_n hK d_Mt_min_1 rfl ?_
  refine gh_icmp_gtN hK d_Mt_min_2 (tgt := 9) (by decide) hi hj (fun z => ?_) (fun z => ?_)
  · refine gh_iload_n hK d_Mt_min_9 rfl ?_
    exact gh_iret hK hE d_Mt_min_10 (Nat.le_refl _) (Nat.le_refl _) ⟨by first | rw [if_pos (by omega)] | rw [if_neg (by omega)], rfl⟩
  · refine gh_iload_n hK d_Mt_min_5 rfl ?_
    refine gh_goto (tgt := 10) hK d_Mt_min_6 (by decide) ?_
    exact gh_iret hK hE d_Mt_min_10 (Nat.le_refl _) (Nat.le_refl _) ⟨by first | rw [if_pos (by omega)] | rw [if_neg (by omega)], rfl⟩
set_option maxRecDepth 20000 in
set_option maxHeartbeats 4000000 in
theorem c_Ars_copyOf3 (l : Launch) (G : GG) {g : GH} {a u N N2 ci : Nat} {r : vw_C} {f : Nat → Option Nat} (T : Nat) (he : g a = some (u, qArr G N f)) (hc : vwCl[ci]? = some r) (hci : r.1 = "SpellDesk$Entry" ∨ r.1 = "SpellDesk$Rule") (hel : ∀ i, i < N → ∀ y, f i = some y → ∃ ty fs, g y = some (ty, .inr (ci, fs))) (hN : N ≤ N2) (hN2 : N2 < 65536) : gMet l G y_Ars_copyOf2 b_Ars_copyOf2 4 (some (.array (.object "java/lang/Object"))) (rmk 1 1 N2 64) [.ref a, .int (nI N2), .ref G.2.2.2.2.2] g (fun v g' => ∃ a1, v = some (.ref a1) ∧ g a1 = none ∧ g' a1 = some (T, qArr G N2 (va_cpy f (fun _ => none) 0 0 N)) ∧ gh_N [] g g') := by
  refine gMet.of [some (.ref a), some (.int (nI N2)), some (.ref G.2.2.2.2.2), none] (by decide +kernel) rfl (Nat.le_of_ble_eq_true rfl) rfl (fun X hK hI hE => ?_)
  refine gh_aload_n hK d_Ars_copyOf2_0 rfl ?_
  refine gh_ldcM hK d_Ars_copyOf2_1 kc_Ars_110 ?_
  refine gh_acmp_ne hK d_Ars_copyOf2_3 (tgt := 13) (by decide) (fun z => absurd rfl z) (fun z => ?_)
  refine gh_iload_n hK d_Ars_copyOf2_6 rfl ?_
  refine gh_newq (N := N2) T hK d_Ars_copyOf2_7 kc_Ars_2 hN2 (Nat.le_of_ble_eq_true rfl) (by show 0 + N2 ≤ N2; omega) (fun a1 ha1 => ?_)
  refine gh_goto (tgt := 24) hK d_Ars_copyOf2_10 (by decide) ?_
  refine gh_astore_n (lv' := [some (.ref a), some (.int (nI N2)), some (.ref G.2.2.2.2.2), some (.ref a1)]) hK d_Ars_copyOf2_24 (Nat.le_of_ble_eq_true rfl) rfl ?_
  refine gh_aload_n hK d_Ars_copyOf2_25 rfl ?_
  refine gh_iconst (v := nI 0) hK d_Ars_copyOf2_26 (by decide) ?_
  refine gh_aload_n hK d_Ars_copyOf2_27 rfl ?_
  refine gh_iconst (v := nI 0) hK d_Ars_copyOf2_28 (by decide) ?_
  refine gh_aload_n hK d_Ars_copyOf2_29 rfl ?_
  have haa : a ≠ a1 := fun z => by rw [z, ha1] at he; cases he
  have he1 : gh_up g a1 T (qArr G N2 (fun _ => none)) a = some (u, qArr G N f) := by rw [gh_un haa]; exact he
  refine gh_alen (v := nI N) hK d_Ars_copyOf2_30 he1 (t0 := 2) rfl rfl ?_
  refine gh_iload_n hK d_Ars_copyOf2_31 rfl ?_
  refine gh_callS (rest := [.int (nI 0), .ref a1, .int (nI 0), .ref a]) [.int (nI N), .int (nI N2)] hK (c_Mt_min l G (g := (gh_up g a1 T (qArr G N2 (fun _ => none)))) (i := N) (j := N2) (by omega) (by omega)) Y_Mt_min V_Mt_min km_Ars_304 rfl d_Ars_copyOf2_32 rfl rfl (Nat.le_of_ble_eq_true rfl) ⟨(Nat.le_of_ble_eq_true rfl), (Nat.le_of_ble_eq_true rfl)⟩ ⟨Nat.le_refl _, by show 0 + N2 + 0 ≤ N2; omega⟩ (fun v g' hp => ?_)
  rw [hp.1, hp.2]
  show gh_W l G _ X (gh_up g a1 T (qArr G N2 (fun _ => none))) _ _ [some (.ref a), some (.int (nI N2)), some (.ref G.2.2.2.2.2), some (.ref a1)] 35 [.int (nI (if N ≤ N2 then N else N2)), .int (nI 0), .ref a1, .int (nI 0), .ref a]
  rw [if_pos hN]
  refine gh_copyq (ci := ci) (r := r) (f := f) (f2 := fun _ => none) (sp := 0) (dp := 0) hK d_Ars_copyOf2_35 km_Ars_150 he1 gh_us hc hci (fun i hi y hy => ?_) (by omega) (by omega) (by omega) (by omega) rfl (Nat.le_of_ble_eq_true rfl) (Nat.le_of_ble_eq_true rfl) ?_
  · rw [Nat.zero_add] at hy
    obtain ⟨ty, fs, hg⟩ := hel i hi y hy
    exact ⟨ty, fs, by rw [gh_un (fun z => by rw [z, ha1] at hg; cases hg)]; exact hg⟩
  refine gh_aload_n hK d_Ars_copyOf2_38 rfl ?_
  exact gh_aret (Or.inr ⟨_, rfl⟩) (Or.inr ⟨_, rfl⟩) hK hE d_Ars_copyOf2_39 (Nat.le_of_ble_eq_true rfl) (by show 0 + N2 + 0 ≤ N2; omega) ⟨a1, rfl, ha1, gh_us, (gh_N.nw ha1).fresh (gh_N.up (S := [a1]) (by simp)) (fun q hq => by rw [List.mem_singleton.mp hq]; exact Or.inr ha1)⟩
set_option maxRecDepth 20000 in
set_option maxHeartbeats 4000000 in
theorem c_Ars_copyOf2 (l : Launch) (G : GG) {g : GH} {a u N N2 ci : Nat} {r : vw_C} {f : Nat → Option Nat} (T : Nat) (he : g a = some (u, qArr G N f)) (hc : vwCl[ci]? = some r) (hci : r.1 = "SpellDesk$Entry" ∨ r.1 = "SpellDesk$Rule") (hel : ∀ i, i < N → ∀ y, f i = some y → ∃ ty fs, g y = some (ty, .inr (ci, fs))) (hN : N ≤ N2) (hN2 : N2 < 65536) : gMet l G y_Ars_copyOf1 b_Ars_copyOf1 2 (some (.array (.object "java/lang/Object"))) (rmk 2 1 N2 87) [.ref a, .int (nI N2)] g (fun v g' => ∃ a1, v = some (.ref a1) ∧ g a1 = none ∧ g' a1 = some (T, qArr G N2 (va_cpy f (fun _ => none) 0 0 N)) ∧ gh_N [] g g') := by
  refine gMet.of [some (.ref a), some (.int (nI N2))] (by decide +kernel) rfl (Nat.le_of_ble_eq_true rfl) rfl (fun X hK hI hE => ?_)
  refine gh_aload_n hK d_Ars_copyOf1_0 rfl ?_
  refine gh_iload_n hK d_Ars_copyOf1_1 rfl ?_
  refine gh_aload_n hK d_Ars_copyOf1_2 rfl ?_
  refine gh_getC hK d_Ars_copyOf1_3 km_Ars_86 he rfl (Nat.le_of_ble_eq_true rfl) (Nat.le_of_ble_eq_true rfl) ?_
  refine gh_callS (rest := []) [.ref a, .int (nI N2), .ref G.2.2.2.2.2] hK (c_Ars_copyOf3 l G T he hc hci hel hN hN2) Y_Ars_copyOf2 V_Ars_copyOf2 km_Ars_300 rfl d_Ars_copyOf1_6 rfl rfl (Nat.le_of_ble_eq_true rfl) ⟨(Nat.le_of_ble_eq_true rfl), (Nat.le_of_ble_eq_true rfl)⟩ ⟨(Nat.le_of_ble_eq_true rfl), by show 0 + N2 ≤ N2; omega⟩ (fun v g1 hp => ?_)
  obtain ⟨a1, rfl, ha1, hp1, hpN⟩ := hp
  show gh_W l G _ X g1 _ _ [some (.ref a), some (.int (nI N2))] 9 [.ref a1]
  exact gh_aret (Or.inr ⟨_, rfl⟩) (Or.inr ⟨_, rfl⟩) hK hE d_Ars_copyOf1_9 (Nat.le_of_ble_eq_true rfl) (by show 0 + N2 ≤ N2; omega) ⟨a1, rfl, ha1, hp1, hpN⟩
set_option maxRecDepth 20000 in
set_option maxHeartbeats 4000000 in
theorem c_ArS_newLength (l : Launch) (G : GG) {g : GH} {i j q : Nat} (hi : i + j + q < 65536) (h0 : 0 < i + j) : gMet l G y_ArS_newLength b_ArS_newLength 4 (some .int) (rmk 1 0 0 21) [.int (nI i), .int (nI j), .int (nI q)] g (fun v g' => v = some (.int (nI (i + (if q ≤ j then j else q)))) ∧ g' = g) := by
  refine gMet.of [some (.int (nI i)), some (.int (nI j)), some (.int (nI q)), none] (by decide +kernel) rfl (Nat.le_of_ble_eq_true rfl) rfl (fun X hK hI hE => ?_)
  have hcn : Cond.constant "jdk/internal/util/ArraysSupport" 200 2147483639 ∈ gTbl := gt_in (i := 565) (by decide +kernel) rfl
  refine gh_iload_n hK d_ArS_newLength_0 rfl ?_
  refine gh_iload_n hK d_ArS_newLength_1 rfl ?_
  refine gh_iload_n hK d_ArS_newLength_2 rfl ?_
  refine gh_callS (rest := [.int (nI i)]) [.int (nI j), .int (nI q)] hK (c_Mt_max l G (g := g) (i := j) (j := q) (by omega) (by omega)) Y_Mt_max V_Mt_max km_ArS_194 rfl d_ArS_newLength_3 rfl rfl (Nat.le_of_ble_eq_true rfl) ⟨(Nat.le_of_ble_eq_true rfl), (Nat.le_of_ble_eq_true rfl)⟩ ⟨(Nat.le_of_ble_eq_true rfl), (Nat.le_of_ble_eq_true rfl)⟩ (fun v g' hp => ?_)
  rw [hp.1, hp.2]
  show gh_W l G _ X g _ _ [some (.int (nI i)), some (.int (nI j)), some (.int (nI q)), none] 6 [.int (nI (if q ≤ j then j else q)), .int (nI i)]
  have hmx : 0 < i + (if q ≤ j then j else q) ∧ i + (if q ≤ j then j else q) < 65536 := by split <;> omega
  generalize (if q ≤ j then j else q) = x at hmx hE ⊢
  refine gh_addN hK d_ArS_newLength_6 ?_
  refine gh_istore_n (lv' := [some (.int (nI i)), some (.int (nI j)), some (.int (nI q)), some (.int (nI (i + x)))]) hK d_ArS_newLength_7 (Nat.le_of_ble_eq_true rfl) rfl ?_
  refine gh_iconst (v := nI 0) hK d_ArS_newLength_8 (by decide) ?_
  refine gh_iload_n hK d_ArS_newLength_9 rfl ?_
  refine gh_icmp_geN hK d_ArS_newLength_10 (tgt := 21) (by decide) (by decide) (by omega) (fun z => absurd z (by omega)) (fun z => ?_)
  refine gh_iload_n hK d_ArS_newLength_13 rfl ?_
  refine gh_ldcI (v := nI 2147483639) hK d_ArS_newLength_14 hcn ?_
  refine gh_icmp_gtN hK d_ArS_newLength_16 (tgt := 21) (by decide) (by omega) (by decide) (fun z2 => absurd z2 (by omega)) (fun z2 => ?_)
  refine gh_iload_n hK d_ArS_newLength_19 rfl ?_
  exact gh_iret hK hE d_ArS_newLength_20 (Nat.le_of_ble_eq_true rfl) (Nat.le_of_ble_eq_true rfl) ⟨rfl, rfl⟩
end
section
/-- the listed objects are of the class ci, under the tag tg -/
def AlT (g : GH) (ci tg : Nat) (rs : List Nat) : Prop := ∀ r, r ∈ rs → ∃ fs, g r = some (tg, .inr (ci, fs))
theorem AlT.M {g g' : GH} {ci tg : Nat} {rs : List Nat} {S : List Nat} (h : AlT g ci tg rs) (hM : gh_M S g g') (h1 : tg ∉ S) : AlT g' ci tg rs := fun r hr => by
  obtain ⟨fs, hf⟩ := h r hr
  exact ⟨fs, hM r tg _ hf h1⟩
set_option maxRecDepth 20000 in
set_option maxHeartbeats 4000000 in
theorem c_AL_grow1 (l : Launch) (G : GG) {g : GH} {la tl to oa N : Nat} {mo : Int32} {f : Nat → Option Nat} {rs : List Nat} {ci tg : Nat} {r : vw_C} (h : AlA G g la tl to oa N mo f rs) (hfull : rs.length = N) (hlt : rs.length < 300) (hT : AlT g ci tg rs) (hc : vwCl[ci]? = some r) (hci : r.1 = "SpellDesk$Entry" ∨ r.1 = "SpellDesk$Rule") : gMet l G y_AL_grow1 b_AL_grow1 4 (some (.array (.object "java/lang/Object"))) (rmk 3 1 450 108) [.ref la, .int (nI (N + 1))] g (fun v g' => ∃ oa1 N1 f1, v = some (.ref oa1) ∧ g oa1 = none ∧ AlA G g' la tl to oa1 N1 mo f1 rs ∧ N < N1 ∧ g' oa1 = some (to, qArr G N1 f1) ∧ gh_N [la] g g') := by
  refine gMet.of [some (.ref la), some (.int (nI (N + 1))), none, none] (by decide +kernel) rfl (Nat.le_of_ble_eq_true rfl) rfl (fun X hK hI hE => ?_)
  obtain ⟨k1, k2, k3, k4, k5⟩ := h
  rcases k2 with ⟨rfl, rfl⟩ | ⟨k6, k7⟩
  · refine gh_aload_n hK d_AL_grow1_0 rfl ?_
    refine gh_get hK d_AL_grow1_1 in_AL rfl k1 1 (by decide) kf_AL_9 rfl rfl ?_
    refine gh_deL hK d_AL_grow1_4 ?_
    refine gh_istore_n (lv' := [some (.ref la), some (.int (nI (0 + 1))), some (.int (nI 0)), none]) hK d_AL_grow1_5 (Nat.le_of_ble_eq_true rfl) rfl ?_
    refine gh_iload_n hK d_AL_grow1_6 rfl ?_
    refine gh_if_gtN hK d_AL_grow1_7 (tgt := 20) (by decide) (by decide) (fun z => absurd z (by decide)) (fun z => ?_)
    refine gh_aload_n hK d_AL_grow1_10 rfl ?_
    refine gh_get hK d_AL_grow1_11 in_AL rfl k1 1 (by decide) kf_AL_9 rfl rfl ?_
    refine gh_de hK d_AL_grow1_14 kf_AL_39 ?_
    refine gh_acmp_eq hK d_AL_grow1_17 (tgt := 45) (by decide) (fun z => ?_) (fun z => absurd rfl z)
    refine gh_aload_n hK d_AL_grow1_45 rfl ?_
    refine gh_bipush (v := nI 10) hK d_AL_grow1_46 (by decide) ?_
    refine gh_iload_n hK d_AL_grow1_48 rfl ?_
    refine gh_callS (rest := [.ref la]) [.int (nI 10), .int (nI (0 + 1))] hK (c_Mt_max l G (g := g) (i := 10) (j := 0 + 1) (by decide) (by decide)) Y_Mt_max V_Mt_max km_AL_79 rfl d_AL_grow1_49 rfl rfl (Nat.le_of_ble_eq_true rfl) ⟨(Nat.le_of_ble_eq_true rfl), (Nat.le_of_ble_eq_true rfl)⟩ ⟨(Nat.le_of_ble_eq_true rfl), (Nat.le_of_ble_eq_true rfl)⟩ (fun v g' hp => ?_)
    rw [hp.1, hp.2]
    show gh_W l G _ X g _ _ [some (.ref la), some (.int (nI (0 + 1))), some (.int (nI 0)), none] 52 [.int (nI (if 0 + 1 ≤ 10 then 10 else 0 + 1)), .ref la]
    rw [if_pos (by decide)]
    refine gh_newq (N := 10) to hK d_AL_grow1_52 kc_AL_7 (by decide) (Nat.le_of_ble_eq_true rfl) (Nat.le_of_ble_eq_true rfl) (fun a1 ha1 => ?_)
    refine gh_dup_x1 hK d_AL_grow1_55 rfl rfl ?_
    have hal : la ≠ a1 := fun z => by rw [z, ha1] at k1; cases k1
    refine gh_put hK d_AL_grow1_56 in_AL t_AL ty_AL nm_AL rfl (by rw [gh_un hal]; exact k1) 1 (by decide) kf_AL_9 rfl rfl rfl rfl (Nat.le_of_ble_eq_true rfl) rfl ?_
    have hrs : rs = [] := List.eq_nil_of_length_eq_zero hfull
    exact gh_aret (Or.inr ⟨_, rfl⟩) (Or.inr ⟨_, rfl⟩) hK hE d_AL_grow1_59 (Nat.le_of_ble_eq_true rfl) (Nat.le_of_ble_eq_true rfl) ⟨a1, 10, _, rfl, ha1, ⟨gh_us, Or.inr ⟨Nat.le_refl _, by rw [gh_un hal.symm, gh_us]⟩, by omega, by omega, fun i r hi => by rw [hrs] at hi; simp at hi⟩, by omega, by rw [gh_un hal.symm, gh_us], (gh_N.nw ha1).tr (gh_N.up (by simp))⟩
  · refine gh_aload_n hK d_AL_grow1_0 rfl ?_
    refine gh_get hK d_AL_grow1_1 in_AL rfl k1 1 (by decide) kf_AL_9 rfl rfl ?_
    refine gh_alen (v := nI N) hK d_AL_grow1_4 k7 (t0 := 2) rfl rfl ?_
    refine gh_istore_n (lv' := [some (.ref la), some (.int (nI (N + 1))), some (.int (nI N)), none]) hK d_AL_grow1_5 (Nat.le_of_ble_eq_true rfl) rfl ?_
    refine gh_iload_n hK d_AL_grow1_6 rfl ?_
    refine gh_if_gtN hK d_AL_grow1_7 (tgt := 20) (by decide) (by omega) (fun z => ?_) (fun z => absurd z (by omega))
    refine gh_iload_n hK d_AL_grow1_20 rfl ?_
    refine gh_iload_n hK d_AL_grow1_21 rfl ?_
    refine gh_iload_n hK d_AL_grow1_22 rfl ?_
    refine gh_subN hK d_AL_grow1_23 (by omega) ?_
    refine gh_iload_n hK d_AL_grow1_24 rfl ?_
    refine gh_iconst (v := nI 1) hK d_AL_grow1_25 (by decide) ?_
    refine gh_ishr hK d_AL_grow1_26 ?_
    rw [show nI N >>> (nI 1 &&& 31) = nI (N / 2) by have := pk_shrN (n := N) (by omega) (nI 1 &&& 31) 1 (by decide); rwa [Nat.pow_one] at this, show N + 1 - N = 1 by omega]
    refine gh_callS (rest := []) [.int (nI N), .int (nI 1), .int (nI (N / 2))] hK (c_ArS_newLength l G (g := g) (i := N) (j := 1) (q := N / 2) (by omega) (by omega)) Y_ArS_newLength V_ArS_newLength km_AL_73 rfl d_AL_grow1_27 rfl rfl (Nat.le_of_ble_eq_true rfl) ⟨(Nat.le_of_ble_eq_true rfl), (Nat.le_of_ble_eq_true rfl)⟩ ⟨(Nat.le_of_ble_eq_true rfl), (Nat.le_of_ble_eq_true rfl)⟩ (fun v g' hp => ?_)
    rw [hp.1, hp.2]
    show gh_W l G _ X g _ _ [some (.ref la), some (.int (nI (N + 1))), some (.int (nI N)), none] 30 [.int (nI (N + (if N / 2 ≤ 1 then 1 else N / 2)))]
    rw [if_neg (by omega)]
    refine gh_istore_n (lv' := [some (.ref la), some (.int (nI (N + 1))), some (.int (nI N)), some (.int (nI (N + N / 2)))]) hK d_AL_grow1_30 (Nat.le_of_ble_eq_true rfl) rfl ?_
    refine gh_aload_n hK d_AL_grow1_31 rfl ?_
    refine gh_aload_n hK d_AL_grow1_32 rfl ?_
    refine gh_get hK d_AL_grow1_33 in_AL rfl k1 1 (by decide) kf_AL_9 rfl rfl ?_
    refine gh_iload_n hK d_AL_grow1_36 rfl ?_
    refine gh_callS (rest := [.ref la]) [.ref oa, .int (nI (N + N / 2))] hK (c_Ars_copyOf2 l G (N2 := N + N / 2) to k7 hc hci (fun i hi y hy => by
      have hi2 : i < rs.length := by omega
      have := k5 i _ (List.getElem?_eq_getElem hi2)
      rw [hy] at this
      cases this
      obtain ⟨fs, hfs⟩ := hT _ (List.getElem_mem hi2)
      exact ⟨tg, fs, hfs⟩) (by omega) (by omega)) Y_Ars_copyOf1 V_Ars_copyOf1 km_AL_66 rfl d_AL_grow1_37 rfl rfl (Nat.le_of_ble_eq_true rfl) ⟨(Nat.le_of_ble_eq_true rfl), (Nat.le_of_ble_eq_true rfl)⟩ ⟨(Nat.le_of_ble_eq_true rfl), by show 0 + 0 + (N + N / 2) ≤ 450; omega⟩ (fun v g1 hp => ?_)
    obtain ⟨a1, rfl, ha1, hp1, hpN⟩ := hp
    show gh_W l G _ X g1 _ _ [some (.ref la), some (.int (nI (N + 1))), some (.int (nI N)), some (.int (nI (N + N / 2)))] 40 [.ref a1, .ref la]
    refine gh_dup_x1 hK d_AL_grow1_40 rfl rfl ?_
    have hal : la ≠ a1 := fun z => by rw [z, ha1] at k1; cases k1
    have j1 : g1 la = some (tl, .inr (11, [.int mo, .ref oa, .int (nI rs.length)])) := by rw [hpN la (by simp) (by rw [k1]; exact fun z => by cases z)]; exact k1
    refine gh_put hK d_AL_grow1_41 in_AL t_AL ty_AL nm_AL rfl j1 1 (by decide) kf_AL_9 rfl rfl rfl rfl (Nat.le_of_ble_eq_true rfl) rfl ?_
    refine gh_aret (Or.inr ⟨_, rfl⟩) (Or.inr ⟨_, rfl⟩) hK hE d_AL_grow1_44 (Nat.le_of_ble_eq_true rfl) (by show 0 + 0 + (N + N / 2) ≤ 450; omega) ⟨a1, N + N / 2, _, rfl, ha1, ⟨gh_us, Or.inr ⟨by omega, by rw [gh_un hal.symm]; exact hp1⟩, by omega, by omega, fun i r hi => ?_⟩, by omega, by rw [gh_un hal.symm]; exact hp1, (hpN.wd (by simp)).tr (gh_N.up (by simp))⟩
    have hi2 := (List.getElem?_eq_some_iff.mp hi).1
    rw [pk_cpy_in (Nat.zero_le _) (by omega), Nat.zero_add, Nat.sub_zero]
    exact k5 i r hi
set_option maxRecDepth 20000 in
set_option maxHeartbeats 4000000 in
theorem c_AL_grow0 (l : Launch) (G : GG) {g : GH} {la tl to oa N : Nat} {mo : Int32} {f : Nat → Option Nat} {rs : List Nat} {ci tg : Nat} {r : vw_C} (h : AlA G g la tl to oa N mo f rs) (hfull : rs.length = N) (hlt : rs.length < 300) (hT : AlT g ci tg rs) (hc : vwCl[ci]? = some r) (hci : r.1 = "SpellDesk$Entry" ∨ r.1 = "SpellDesk$Rule") : gMet l G y_AL_grow b_AL_grow 1 (some (.array (.object "java/lang/Object"))) (rmk 4 1 450 131) [.ref la] g (fun v g' => ∃ oa1 N1 f1, v = some (.ref oa1) ∧ g oa1 = none ∧ AlA G g' la tl to oa1 N1 mo f1 rs ∧ N < N1 ∧ g' oa1 = some (to, qArr G N1 f1) ∧ gh_N [la] g g') := by
  refine gMet.of [some (.ref la)] (by decide +kernel) rfl (Nat.le_of_ble_eq_true rfl) rfl (fun X hK hI hE => ?_)
  have h1 := h.1
  refine gh_aload_n hK d_AL_grow_0 rfl ?_
  refine gh_aload_n hK d_AL_grow_1 rfl ?_
  refine gh_get hK d_AL_grow_2 in_AL rfl h1 2 (by decide) kf_AL_48 rfl rfl ?_
  refine gh_iconst (v := nI 1) hK d_AL_grow_5 (by decide) ?_
  refine gh_addN hK d_AL_grow_6 ?_
  rw [hfull]
  refine gh_callV (rest := []) [.int (nI (N + 1))] hK (c_AL_grow1 l G h hfull hlt hT hc hci) Y_AL_grow1 V_AL_grow1 km_AL_69 h1 rfl rfl d_AL_grow_7 rfl rfl (Nat.le_of_ble_eq_true rfl) ⟨(Nat.le_of_ble_eq_true rfl), (Nat.le_of_ble_eq_true rfl)⟩ ⟨(Nat.le_of_ble_eq_true rfl), (Nat.le_of_ble_eq_true rfl)⟩ (fun v g1 hp => ?_)
  obtain ⟨oa1, N1, f1, rfl, hp⟩ := hp
  show gh_W l G _ X g1 _ _ [some (.ref la)] 10 [.ref oa1]
  exact gh_aret (Or.inr ⟨_, rfl⟩) (Or.inr ⟨_, rfl⟩) hK hE d_AL_grow_10 (Nat.le_of_ble_eq_true rfl) (Nat.le_of_ble_eq_true rfl) ⟨oa1, N1, f1, rfl, hp⟩
set_option maxRecDepth 20000 in
set_option maxHeartbeats 4000000 in
theorem c_AL_rangeCheckForAdd (l : Launch) (G : GG) {g : GH} {la tl to : Nat} {rs : List Nat} {j : Nat} (h : Al G g la tl to rs) (hj : j ≤ rs.length) : gMet l G y_AL_rangeCheckForAdd b_AL_rangeCheckForAdd 2 none (rmk 0 0 0 0) [.ref la, .int (nI j)] g (fun v g' => v = none ∧ g' = g) := by
  refine gMet.of [some (.ref la), some (.int (nI j))] (by decide +kernel) rfl (Nat.le_of_ble_eq_true rfl) rfl (fun X hK hI hE => ?_)
  obtain ⟨oa, N, mo, f, k1, k2, k3, k4, k5⟩ := h
  refine gh_iload_n hK d_AL_rangeCheckForAdd_0 rfl ?_
  refine gh_aload_n hK d_AL_rangeCheckForAdd_1 rfl ?_
  refine gh_get hK d_AL_rangeCheckForAdd_2 in_AL rfl k1 2 (by decide) kf_AL_48 rfl rfl ?_
  refine gh_icmp_gtN hK d_AL_rangeCheckForAdd_5 (tgt := 12) (by decide) (by omega) (by omega) (fun z => absurd z (by omega)) (fun z => ?_)
  refine gh_iload_n hK d_AL_rangeCheckForAdd_8 rfl ?_
  refine gh_if_geN hK d_AL_rangeCheckForAdd_9 (tgt := 25) (by decide) (by omega) ?_
  exact gh_vret hK hE d_AL_rangeCheckForAdd_25 (Nat.le_of_ble_eq_true rfl) (Nat.le_of_ble_eq_true rfl) ⟨rfl, rfl⟩
set_option maxRecDepth 20000 in
set_option maxHeartbeats 4000000 in
theorem c_AL_addAt (l : Launch) (G : GG) {g : GH} {la tl to : Nat} {rs : List Nat} {j : Nat} {ci tg : Nat} {r : vw_C} {e : Nat} {vs : List Value} (h : Al G g la tl to rs) (hj : j ≤ rs.length) (hlt : rs.length < 300) (hT : AlT g ci tg rs) (hc : vwCl[ci]? = some r) (hci : r.1 = "SpellDesk$Entry" ∨ r.1 = "SpellDesk$Rule") (he : g e = some (tg, .inr (ci, vs))) (htg : tg ∉ [tl, to]) : gMet l G y_AL_add b_AL_add 5 none (rmk 5 1 450 151) [.ref la, .int (nI j), .ref e] g (fun v g' => v = none ∧ Al G g' la tl to (insA rs j e) ∧ gh_M [tl, to] g g') := by
  refine gMet.of [some (.ref la), some (.int (nI j)), some (.ref e), none, none] (by decide +kernel) rfl (Nat.le_of_ble_eq_true rfl) rfl (fun X hK hI hE => ?_)
  have hh := h
  obtain ⟨oa, N, mo, f, k1, k2, k3, k4, k5⟩ := h
  have tail : ∀ (g1 : GH) (oa1 N1 : Nat) (mo1 : Int32) (f1 : Nat → Option Nat), g1 la = some (tl, .inr (11, [.int mo1, .ref oa1, .int (nI rs.length)])) → g1 oa1 = some (to, qArr G N1 f1) → 10 ≤ N1 → rs.length < N1 → N1 ≤ 450 → (∀ i r, rs[i]? = some r → f1 i = some r) → gh_M [tl, to] g g1 → gh_W l G (rmk 5 1 450 151) X g1 1 450 [some (.ref la), some (.int (nI j)), some (.ref e), some (.int (nI rs.length)), some (.ref oa1)] 38 [] := by
    intro g1 oa1 N1 mo1 f1 j1 j2 hN1 hN2 hN3 j5 hM
    have n1 : la ≠ oa1 := fun z => by rw [z, j2] at j1; cases j1
    have e1 := hM e tg _ he htg
    have n2 : e ≠ oa1 := fun z => by rw [z, j2] at e1; cases e1
    have hT1 := hT.M hM htg
    refine gh_aload hK d_AL_add_38 rfl ?_
    refine gh_iload_n hK d_AL_add_40 rfl ?_
    refine gh_aload hK d_AL_add_41 rfl ?_
    refine gh_iload_n hK d_AL_add_43 rfl ?_
    refine gh_iconst (v := nI 1) hK d_AL_add_44 (by decide) ?_
    refine gh_addN hK d_AL_add_45 ?_
    refine gh_iload_n hK d_AL_add_46 rfl ?_
    refine gh_iload_n hK d_AL_add_47 rfl ?_
    refine gh_subN hK d_AL_add_48 (by omega) ?_
    refine gh_copyq (ci := ci) (r := r) (f := f1) (f2 := f1) (sp := j) (dp := j + 1) hK d_AL_add_49 km_AL_112 j2 j2 hc hci (fun i hi y hy => ?_) (by omega) (by omega) (by omega) (by omega) rfl (Nat.le_of_ble_eq_true rfl) (Nat.le_of_ble_eq_true rfl) ?_
    · have hi2 : j + i < rs.length := by omega
      have := j5 (j + i) _ (List.getElem?_eq_getElem hi2)
      rw [hy] at this
      cases this
      obtain ⟨fs, hfs⟩ := hT1 _ (List.getElem_mem hi2)
      exact ⟨tg, fs, hfs⟩
    refine gh_aload hK d_AL_add_52 rfl ?_
    refine gh_iload_n hK d_AL_add_54 rfl ?_
    refine gh_aload_n hK d_AL_add_55 rfl ?_
    refine gh_aast hK d_AL_add_56 gh_us (by rw [gh_un n2]; exact e1) hc hci (by omega) (by omega) ?_
    refine gh_aload_n hK d_AL_add_57 rfl ?_
    refine gh_iload_n hK d_AL_add_58 rfl ?_
    refine gh_iconst (v := nI 1) hK d_AL_add_59 (by decide) ?_
    refine gh_addN hK d_AL_add_60 ?_
    refine gh_put hK d_AL_add_61 in_AL t_AL ty_AL nm_AL rfl (by rw [gh_un n1, gh_un n1]; exact j1) 2 (by decide) kf_AL_48 rfl rfl rfl rfl (Nat.le_of_ble_eq_true rfl) rfl ?_
    refine gh_vret hK hE d_AL_add_64 (Nat.le_of_ble_eq_true rfl) (Nat.le_of_ble_eq_true rfl) ⟨rfl, ⟨oa1, N1, mo1, va_up (va_cpy f1 f1 j (j + 1) (rs.length - j)) j (some e), by rw [gh_us, insA_len hj]; rfl, Or.inr ⟨hN1, by rw [gh_un n1.symm, gh_us]⟩, by rw [insA_len hj]; omega, hN3, fun i r hi => ?_⟩, hM.tr (((gh_M.up j2 (by simp)).tr (gh_M.up gh_us (by simp))).tr (gh_M.up (by rw [gh_un n1, gh_un n1]; exact j1) (by simp)))⟩
    have hil := (List.getElem?_eq_some_iff.mp hi).1
    rw [insA_len hj] at hil
    rcases Nat.lt_trichotomy i j with q | q | q
    · rw [insA_lt hj q] at hi
      rw [va_up_ne _ _ (by omega), pk_cpy_out (by omega)]
      exact j5 i r hi
    · rw [q, insA_eq hj] at hi
      cases hi
      rw [q, va_up_self]
    · rw [insA_gt hj q] at hi
      rw [va_up_ne _ _ (by omega), pk_cpy_in (by omega) (by omega), show j + (i - (j + 1)) = i - 1 by omega]
      exact j5 (i - 1) r hi
  refine gh_aload_n hK d_AL_add_0 rfl ?_
  refine gh_iload_n hK d_AL_add_1 rfl ?_
  refine gh_callV (rest := []) [.int (nI j)] hK (c_AL_rangeCheckForAdd l G hh hj) Y_AL_rangeCheckForAdd V_AL_rangeCheckForAdd km_AL_135 k1 rfl rfl d_AL_add_2 rfl rfl (Nat.le_of_ble_eq_true rfl) ⟨(Nat.le_of_ble_eq_true rfl), (Nat.le_of_ble_eq_true rfl)⟩ ⟨Nat.zero_le _, Nat.zero_le _⟩ (fun v g' hp => ?_)
  rw [hp.1, hp.2]
  show gh_W l G _ X g _ _ [some (.ref la), some (.int (nI j)), some (.ref e), none, none] 5 []
  refine gh_aload_n hK d_AL_add_5 rfl ?_
  refine gh_dup hK d_AL_add_6 rfl ?_
  refine gh_getM hK d_AL_add_7 k1 kf_AL_63 rfl ?_
  refine gh_iconst (v := nI 1) hK d_AL_add_10 (by decide) ?_
  refine gh_iadd hK d_AL_add_11 ?_
  refine gh_putM (fs' := [.int (mo + nI 1), .ref oa, .int (nI rs.length)]) hK d_AL_add_12 k1 kf_AL_63 (Nat.le_of_ble_eq_true rfl) rfl ?_
  have hM0 : gh_M [tl, to] g (gh_up g la tl (.inr (11, [.int (mo + nI 1), .ref oa, .int (nI rs.length)]))) := gh_M.up k1 (by simp)
  have a1 : AlA G (gh_up g la tl (.inr (11, [.int (mo + nI 1), .ref oa, .int (nI rs.length)]))) la tl to oa N (mo + nI 1) f rs := ⟨gh_us, k2.imp id (fun q => ⟨q.1, by rw [gh_un (fun z => by rw [z, k1] at q; cases q.2)]; exact q.2⟩), k3, k4, k5⟩
  generalize gh_up g la tl (.inr (11, [.int (mo + nI 1), .ref oa, .int (nI rs.length)])) = g1 at hM0 a1 ⊢
  have b1 := a1.1
  refine gh_aload_n hK d_AL_add_15 rfl ?_
  refine gh_get hK d_AL_add_16 in_AL rfl b1 2 (by decide) kf_AL_48 rfl rfl ?_
  refine gh_dup hK d_AL_add_19 rfl ?_
  refine gh_istore_n (lv' := [some (.ref la), some (.int (nI j)), some (.ref e), some (.int (nI rs.length)), none]) hK d_AL_add_20 (Nat.le_of_ble_eq_true rfl) rfl ?_
  refine gh_aload_n hK d_AL_add_21 rfl ?_
  refine gh_get hK d_AL_add_22 in_AL rfl b1 1 (by decide) kf_AL_9 rfl rfl ?_
  refine gh_dup hK d_AL_add_25 rfl ?_
  refine gh_astore (lv' := [some (.ref la), some (.int (nI j)), some (.ref e), some (.int (nI rs.length)), some (.ref oa)]) hK d_AL_add_26 (Nat.le_of_ble_eq_true rfl) rfl ?_
  rcases a1.2.1 with ⟨q1, q2⟩ | ⟨q1, q2⟩
  · have hz : rs.length = 0 := by omega
    rw [q2]
    refine gh_deL hK d_AL_add_28 ?_
    refine gh_icmp_neN hK d_AL_add_29 (tgt := 38) (by decide) (by omega) (by omega) (fun z => ?_) (fun z => ?_)
    · omega
    · refine gh_aload_n hK d_AL_add_32 rfl ?_
      refine gh_callV (rest := []) [] hK (c_AL_grow0 l G a1 (by omega) hlt (hT.M hM0 htg) hc hci) Y_AL_grow V_AL_grow km_AL_129 b1 rfl rfl d_AL_add_33 rfl rfl (Nat.le_of_ble_eq_true rfl) ⟨(Nat.le_of_ble_eq_true rfl), (Nat.le_of_ble_eq_true rfl)⟩ ⟨(Nat.le_of_ble_eq_true rfl), (Nat.le_of_ble_eq_true rfl)⟩ (fun v g2 hp => ?_)
      obtain ⟨oa1, N1, f1, rfl, hp1, hp2, hp3, hp4, hp5⟩ := hp
      show gh_W l G _ X g2 _ _ [some (.ref la), some (.int (nI j)), some (.ref e), some (.int (nI rs.length)), some (.ref G.2.2.2.2.1)] 36 [.ref oa1]
      refine gh_astore (lv' := [some (.ref la), some (.int (nI j)), some (.ref e), some (.int (nI rs.length)), some (.ref oa1)]) hK d_AL_add_36 (Nat.le_of_ble_eq_true rfl) rfl ?_
      refine tail g2 oa1 N1 _ f1 hp2.1 hp4 (hp2.2.1.elim (fun q => by omega) (fun q => q.1)) (by omega) hp2.2.2.2.1 hp2.2.2.2.2 (hM0.tr (hp5.M fun a ha => ?_))
      rw [List.mem_singleton.mp ha]
      exact ⟨_, _, b1, by simp⟩
  · refine gh_alen (v := nI N) hK d_AL_add_28 q2 (t0 := 2) rfl rfl ?_
    refine gh_icmp_neN hK d_AL_add_29 (tgt := 38) (by decide) (by omega) (by omega) (fun z => ?_) (fun z => ?_)
    · exact gh_widen (Nat.zero_le _) (Nat.zero_le _) (tail g1 oa N _ f b1 q2 q1 (by omega) k4 k5 hM0)
    · refine gh_aload_n hK d_AL_add_32 rfl ?_
      refine gh_callV (rest := []) [] hK (c_AL_grow0 l G a1 (by omega) hlt (hT.M hM0 htg) hc hci) Y_AL_grow V_AL_grow km_AL_129 b1 rfl rfl d_AL_add_33 rfl rfl (Nat.le_of_ble_eq_true rfl) ⟨(Nat.le_of_ble_eq_true rfl), (Nat.le_of_ble_eq_true rfl)⟩ ⟨(Nat.le_of_ble_eq_true rfl), (Nat.le_of_ble_eq_true rfl)⟩ (fun v g2 hp => ?_)
      obtain ⟨oa1, N1, f1, rfl, hp1, hp2, hp3, hp4, hp5⟩ := hp
      show gh_W l G _ X g2 _ _ [some (.ref la), some (.int (nI j)), some (.ref e), some (.int (nI rs.length)), some (.ref oa)] 36 [.ref oa1]
      refine gh_astore (lv' := [some (.ref la), some (.int (nI j)), some (.ref e), some (.int (nI rs.length)), some (.ref oa1)]) hK d_AL_add_36 (Nat.le_of_ble_eq_true rfl) rfl ?_
      refine tail g2 oa1 N1 _ f1 hp2.1 hp4 (hp2.2.1.elim (fun q => by omega) (fun q => q.1)) (by omega) hp2.2.2.2.1 hp2.2.2.2.2 (hM0.tr (hp5.M fun a ha => ?_))
      rw [List.mem_singleton.mp ha]
      exact ⟨_, _, b1, by simp⟩
end
section
theorem gh_rfS {l : Launch} {G : GG} {R : Room} {X : GX} {g : GH} {k n pc : Nat} {lv : List (Option Value)} {st : List Value} {q : Nat} (kk : gh_W l G R X g k n lv pc (.ref q :: st)) : gh_W l G R X g k n lv pc (va_rf (some q) :: st) := kk
set_option maxRecDepth 20000 in
set_option maxHeartbeats 4000000 in
theorem c_AL_add3 (l : Launch) (G : GG) {g : GH} {la tl to oa N : Nat} {mo : Int32} {f : Nat → Option Nat} {rs : List Nat} {ci tg : Nat} {r : vw_C} {e : Nat} {vs : List Value} (h : AlA G g la tl to oa N mo f rs) (hlt : rs.length < 300) (hT : AlT g ci tg rs) (hc : vwCl[ci]? = some r) (hci : r.1 = "SpellDesk$Entry" ∨ r.1 = "SpellDesk$Rule") (he : g e = some (tg, .inr (ci, vs))) (htg : tg ∉ [tl, to]) : gMet l G y_AL_add2 b_AL_add2 4 none (rmk 5 1 450 151) [.ref la, .ref e, .ref oa, .int (nI rs.length)] g (fun v g' => v = none ∧ Al G g' la tl to (rs ++ [e]) ∧ gh_M [tl, to] g g') := by
  refine gMet.of [some (.ref la), some (.ref e), some (.ref oa), some (.int (nI rs.length))] (by decide +kernel) rfl (Nat.le_of_ble_eq_true rfl) rfl (fun X hK hI hE => ?_)
  have hh := h
  obtain ⟨k1, k2, k3, k4, k5⟩ := h
  have tail : ∀ (g1 : GH) (oa1 N1 : Nat) (f1 : Nat → Option Nat), g1 la = some (tl, .inr (11, [.int mo, .ref oa1, .int (nI rs.length)])) → g1 oa1 = some (to, qArr G N1 f1) → 10 ≤ N1 → rs.length < N1 → N1 ≤ 450 → (∀ i r, rs[i]? = some r → f1 i = some r) → gh_M [tl, to] g g1 → gh_W l G (rmk 5 1 450 151) X g1 1 450 [some (.ref la), some (.ref e), some (.ref oa1), some (.int (nI rs.length))] 11 [] := by
    intro g1 oa1 N1 f1 j1 j2 hN1 hN2 hN3 j5 hM
    have n1 : la ≠ oa1 := fun z => by rw [z, j2] at j1; cases j1
    have e1 := hM e tg _ he htg
    refine gh_aload_n hK d_AL_add2_11 rfl ?_
    refine gh_iload_n hK d_AL_add2_12 rfl ?_
    refine gh_aload_n hK d_AL_add2_13 rfl ?_
    refine gh_aast hK d_AL_add2_14 j2 e1 hc hci (by omega) (by omega) ?_
    refine gh_aload_n hK d_AL_add2_15 rfl ?_
    refine gh_iload_n hK d_AL_add2_16 rfl ?_
    refine gh_iconst (v := nI 1) hK d_AL_add2_17 (by decide) ?_
    refine gh_addN hK d_AL_add2_18 ?_
    refine gh_put hK d_AL_add2_19 in_AL t_AL ty_AL nm_AL rfl (by rw [gh_un n1]; exact j1) 2 (by decide) kf_AL_48 rfl rfl rfl rfl (Nat.le_of_ble_eq_true rfl) rfl ?_
    refine gh_vret hK hE d_AL_add2_22 (Nat.le_of_ble_eq_true rfl) (Nat.le_of_ble_eq_true rfl) ⟨rfl, ⟨oa1, N1, mo, va_up f1 rs.length (some e), by rw [gh_us, List.length_append]; rfl, Or.inr ⟨hN1, by rw [gh_un n1.symm, gh_us]⟩, by rw [List.length_append]; exact hN2, hN3, fun i r hi => ?_⟩, hM.tr ((gh_M.up j2 (by simp)).tr (gh_M.up (by rw [gh_un n1]; exact j1) (by simp)))⟩
    by_cases q : i < rs.length
    · rw [List.getElem?_append_left q] at hi
      rw [va_up_ne _ _ (by omega)]
      exact j5 i r hi
    · have hil := (List.getElem?_eq_some_iff.mp hi).1
      rw [List.length_append, List.length_singleton] at hil
      rw [List.getElem?_append_right (by omega), show i - rs.length = 0 by omega] at hi
      cases hi
      rw [show i = rs.length by omega, va_up_self]
  refine gh_iload_n hK d_AL_add2_0 rfl ?_
  refine gh_aload_n hK d_AL_add2_1 rfl ?_
  rcases id k2 with ⟨q1, q2⟩ | ⟨q1, q2⟩
  · rw [q2]
    refine gh_deL hK d_AL_add2_2 ?_
    refine gh_icmp_neN hK d_AL_add2_3 (tgt := 11) (by decide) (by omega) (by omega) (fun z => ?_) (fun z => ?_)
    · omega
    · refine gh_aload_n hK d_AL_add2_6 rfl ?_
      refine gh_callV (rest := []) [] hK (c_AL_grow0 l G hh (by omega) hlt hT hc hci) Y_AL_grow V_AL_grow km_AL_129 k1 rfl rfl d_AL_add2_7 rfl rfl (Nat.le_of_ble_eq_true rfl) ⟨(Nat.le_of_ble_eq_true rfl), (Nat.le_of_ble_eq_true rfl)⟩ ⟨(Nat.le_of_ble_eq_true rfl), (Nat.le_of_ble_eq_true rfl)⟩ (fun v g2 hp => ?_)
      obtain ⟨oa1, N1, f1, rfl, hp1, hp2, hp3, hp4, hp5⟩ := hp
      show gh_W l G _ X g2 _ _ [some (.ref la), some (.ref e), some (.ref G.2.2.2.2.1), some (.int (nI rs.length))] 10 [.ref oa1]
      refine gh_astore_n (lv' := [some (.ref la), some (.ref e), some (.ref oa1), some (.int (nI rs.length))]) hK d_AL_add2_10 (Nat.le_of_ble_eq_true rfl) rfl ?_
      refine tail g2 oa1 N1 f1 hp2.1 hp4 (hp2.2.1.elim (fun q => by omega) (fun q => q.1)) (by omega) hp2.2.2.2.1 hp2.2.2.2.2 (hp5.M fun a ha => ?_)
      rw [List.mem_singleton.mp ha]
      exact ⟨_, _, k1, by simp⟩
  · refine gh_alen (v := nI N) hK d_AL_add2_2 q2 (t0 := 2) rfl rfl ?_
    refine gh_icmp_neN hK d_AL_add2_3 (tgt := 11) (by decide) (by omega) (by omega) (fun z => ?_) (fun z => ?_)
    · exact gh_widen (Nat.zero_le _) (Nat.zero_le _) (tail g oa N f k1 q2 q1 (by omega) k4 k5 gh_M.rf)
    · refine gh_aload_n hK d_AL_add2_6 rfl ?_
      refine gh_callV (rest := []) [] hK (c_AL_grow0 l G hh (by omega) hlt hT hc hci) Y_AL_grow V_AL_grow km_AL_129 k1 rfl rfl d_AL_add2_7 rfl rfl (Nat.le_of_ble_eq_true rfl) ⟨(Nat.le_of_ble_eq_true rfl), (Nat.le_of_ble_eq_true rfl)⟩ ⟨(Nat.le_of_ble_eq_true rfl), (Nat.le_of_ble_eq_true rfl)⟩ (fun v g2 hp => ?_)
      obtain ⟨oa1, N1, f1, rfl, hp1, hp2, hp3, hp4, hp5⟩ := hp
      show gh_W l G _ X g2 _ _ [some (.ref la), some (.ref e), some (.ref oa), some (.int (nI rs.length))] 10 [.ref oa1]
      refine gh_astore_n (lv' := [some (.ref la), some (.ref e), some (.ref oa1), some (.int (nI rs.length))]) hK d_AL_add2_10 (Nat.le_of_ble_eq_true rfl) rfl ?_
      refine tail g2 oa1 N1 f1 hp2.1 hp4 (hp2.2.1.elim (fun q => by omega) (fun q => q.1)) (by omega) hp2.2.2.2.1 hp2.2.2.2.2 (hp5.M fun a ha => ?_)
      rw [List.mem_singleton.mp ha]
      exact ⟨_, _, k1, by simp⟩
set_option maxRecDepth 20000 in
set_option maxHeartbeats 4000000 in
theorem c_AL_add (l : Launch) (G : GG) {g : GH} {la tl to : Nat} {rs : List Nat} {ci tg : Nat} {r : vw_C} {e : Nat} {vs : List Value} (h : Al G g la tl to rs) (hlt : rs.length < 300) (hT : AlT g ci tg rs) (hc : vwCl[ci]? = some r) (hci : r.1 = "SpellDesk$Entry" ∨ r.1 = "SpellDesk$Rule") (he : g e = some (tg, .inr (ci, vs))) (htg : tg ∉ [tl, to]) : gMet l G y_AL_add1 b_AL_add1 2 (some .boolean) (rmk 6 1 450 174) [.ref la, .ref e] g (fun v g' => v = some (.int (nI 1)) ∧ Al G g' la tl to (rs ++ [e]) ∧ gh_M [tl, to] g g') := by
  refine gMet.of [some (.ref la), some (.ref e)] (by decide +kernel) rfl (Nat.le_of_ble_eq_true rfl) rfl (fun X hK hI hE => ?_)
  obtain ⟨oa, N, mo, f, k1, k2, k3, k4, k5⟩ := h
  refine gh_aload_n hK d_AL_add1_0 rfl ?_
  refine gh_dup hK d_AL_add1_1 rfl ?_
  refine gh_getM hK d_AL_add1_2 k1 kf_AL_63 rfl ?_
  refine gh_iconst (v := nI 1) hK d_AL_add1_5 (by decide) ?_
  refine gh_iadd hK d_AL_add1_6 ?_
  refine gh_putM (fs' := [.int (mo + nI 1), .ref oa, .int (nI rs.length)]) hK d_AL_add1_7 k1 kf_AL_63 (Nat.le_of_ble_eq_true rfl) rfl ?_
  have hM0 : gh_M [tl, to] g (gh_up g la tl (.inr (11, [.int (mo + nI 1), .ref oa, .int (nI rs.length)]))) := gh_M.up k1 (by simp)
  have a1 : AlA G (gh_up g la tl (.inr (11, [.int (mo + nI 1), .ref oa, .int (nI rs.length)]))) la tl to oa N (mo + nI 1) f rs := ⟨gh_us, k2.imp id (fun q => ⟨q.1, by rw [gh_un (fun z => by rw [z, k1] at q; cases q.2)]; exact q.2⟩), k3, k4, k5⟩
  generalize gh_up g la tl (.inr (11, [.int (mo + nI 1), .ref oa, .int (nI rs.length)])) = g1 at hM0 a1 ⊢
  have b1 := a1.1
  refine gh_aload_n hK d_AL_add1_10 rfl ?_
  refine gh_aload_n hK d_AL_add1_11 rfl ?_
  refine gh_aload_n hK d_AL_add1_12 rfl ?_
  refine gh_get hK d_AL_add1_13 in_AL rfl b1 1 (by decide) kf_AL_9 rfl rfl ?_
  refine gh_aload_n hK d_AL_add1_16 rfl ?_
  refine gh_get hK d_AL_add1_17 in_AL rfl b1 2 (by decide) kf_AL_48 rfl rfl ?_
  refine gh_callV (rest := []) [.ref e, .ref oa, .int (nI rs.length)] hK (c_AL_add3 l G a1 hlt (hT.M hM0 htg) hc hci (hM0 e tg _ he htg) htg) Y_AL_add2 V_AL_add2 km_AL_131 b1 rfl rfl d_AL_add1_20 rfl rfl (Nat.le_of_ble_eq_true rfl) ⟨(Nat.le_of_ble_eq_true rfl), (Nat.le_of_ble_eq_true rfl)⟩ ⟨(Nat.le_of_ble_eq_true rfl), (Nat.le_of_ble_eq_true rfl)⟩ (fun v g2 hp => ?_)
  obtain ⟨rfl, hp1, hp2⟩ := hp
  show gh_W l G _ X g2 _ _ [some (.ref la), some (.ref e)] 23 []
  refine gh_iconst (v := nI 1) hK d_AL_add1_23 (by decide) ?_
  exact gh_zret rfl hK hE d_AL_add1_24 (Nat.le_of_ble_eq_true rfl) (Nat.le_of_ble_eq_true rfl) ⟨rfl, hp1, hM0.tr hp2⟩
set_option maxRecDepth 20000 in
set_option maxHeartbeats 4000000 in
theorem c_AL_fastRemove (l : Launch) (G : GG) {g : GH} {la tl to oa N : Nat} {mo : Int32} {f : Nat → Option Nat} {rs : List Nat} {ci tg j : Nat} {r : vw_C} (h : AlA G g la tl to oa N mo f rs) (hj : j < rs.length) (hT : AlT g ci tg rs) (hc : vwCl[ci]? = some r) (hci : r.1 = "SpellDesk$Entry" ∨ r.1 = "SpellDesk$Rule") (htg : tg ∉ [tl, to]) : gMet l G y_AL_fastRemove b_AL_fastRemove 4 none (rmk 1 0 0 64) [.ref la, .ref oa, .int (nI j)] g (fun v g' => v = none ∧ Al G g' la tl to (rs.eraseIdx j) ∧ gh_M [tl, to] g g') := by
  refine gMet.of [some (.ref la), some (.ref oa), some (.int (nI j)), none] (by decide +kernel) rfl (Nat.le_of_ble_eq_true rfl) rfl (fun X hK hI hE => ?_)
  obtain ⟨k1, k2, k3, k4, k5⟩ := h
  obtain ⟨k6, k7⟩ : 10 ≤ N ∧ g oa = some (to, qArr G N f) := k2.resolve_left (fun q => by omega)
  have n0 : la ≠ oa := fun z => by rw [z, k7] at k1; cases k1
  have tail : ∀ (g1 : GH) (f1 : Nat → Option Nat), g1 la = some (tl, .inr (11, [.int (mo + nI 1), .ref oa, .int (nI rs.length)])) → g1 oa = some (to, qArr G N f1) → (∀ i r, (rs.eraseIdx j)[i]? = some r → f1 i = some r) → gh_M [tl, to] g g1 → gh_W l G (rmk 1 0 0 64) X g1 0 0 [some (.ref la), some (.ref oa), some (.int (nI j)), some (.int (nI (rs.length - 1)))] 34 [] := by
    intro g1 f1 j1 j2 j5 hM
    have hel : (rs.eraseIdx j).length = rs.length - 1 := List.length_eraseIdx_of_lt hj
    refine gh_aload_n hK d_AL_fastRemove_34 rfl ?_
    refine gh_aload_n hK d_AL_fastRemove_35 rfl ?_
    refine gh_iload_n hK d_AL_fastRemove_36 rfl ?_
    refine gh_dup_x1 hK d_AL_fastRemove_37 rfl rfl ?_
    refine gh_put (fs' := [.int (mo + nI 1), .ref oa, .int (nI (rs.length - 1))]) hK d_AL_fastRemove_38 in_AL t_AL ty_AL nm_AL rfl j1 2 (by decide) kf_AL_48 rfl rfl rfl rfl (Nat.le_of_ble_eq_true rfl) rfl ?_
    refine gh_null hK d_AL_fastRemove_41 ?_
    refine gh_aastN hK d_AL_fastRemove_42 (by rw [gh_un n0.symm]; exact j2) (by omega) (by omega) ?_
    refine gh_vret hK hE d_AL_fastRemove_43 (Nat.le_of_ble_eq_true rfl) (Nat.le_of_ble_eq_true rfl) ⟨rfl, ⟨oa, N, mo + nI 1, va_up f1 (rs.length - 1) none, by rw [gh_un n0, gh_us, hel], Or.inr ⟨k6, gh_us⟩, by rw [hel]; omega, k4, fun i r hi => ?_⟩, hM.tr ((gh_M.up j1 (by simp)).tr (gh_M.up (by rw [gh_un n0.symm]; exact j2) (by simp)))⟩
    have hil := (List.getElem?_eq_some_iff.mp hi).1
    rw [va_up_ne _ _ (by omega)]
    exact j5 i r hi
  refine gh_aload_n hK d_AL_fastRemove_0 rfl ?_
  refine gh_dup hK d_AL_fastRemove_1 rfl ?_
  refine gh_getM hK d_AL_fastRemove_2 k1 kf_AL_63 rfl ?_
  refine gh_iconst (v := nI 1) hK d_AL_fastRemove_5 (by decide) ?_
  refine gh_iadd hK d_AL_fastRemove_6 ?_
  refine gh_putM (fs' := [.int (mo + nI 1), .ref oa, .int (nI rs.length)]) hK d_AL_fastRemove_7 k1 kf_AL_63 (Nat.le_of_ble_eq_true rfl) rfl ?_
  have hM0 : gh_M [tl, to] g (gh_up g la tl (.inr (11, [.int (mo + nI 1), .ref oa, .int (nI rs.length)]))) := gh_M.up k1 (by simp)
  have a1 : AlA G (gh_up g la tl (.inr (11, [.int (mo + nI 1), .ref oa, .int (nI rs.length)]))) la tl to oa N (mo + nI 1) f rs := ⟨gh_us, k2.imp id (fun q => ⟨q.1, by rw [gh_un (fun z => by rw [z, k1] at q; cases q.2)]; exact q.2⟩), k3, k4, k5⟩
  generalize gh_up g la tl (.inr (11, [.int (mo + nI 1), .ref oa, .int (nI rs.length)])) = g1 at hM0 a1 ⊢
  have b1 := a1.1
  have b2 : g1 oa = some (to, qArr G N f) := (a1.2.1.resolve_left (fun q => by omega)).2
  refine gh_aload_n hK d_AL_fastRemove_10 rfl ?_
  refine gh_get hK d_AL_fastRemove_11 in_AL rfl b1 2 (by decide) kf_AL_48 rfl rfl ?_
  refine gh_iconst (v := nI 1) hK d_AL_fastRemove_14 (by decide) ?_
  refine gh_subN hK d_AL_fastRemove_15 (by omega) ?_
  refine gh_dup hK d_AL_fastRemove_16 rfl ?_
  refine gh_istore_n (lv' := [some (.ref la), some (.ref oa), some (.int (nI j)), some (.int (nI (rs.length - 1)))]) hK d_AL_fastRemove_17 (Nat.le_of_ble_eq_true rfl) rfl ?_
  refine gh_iload_n hK d_AL_fastRemove_18 rfl ?_
  refine gh_icmp_leN hK d_AL_fastRemove_19 (tgt := 34) (by decide) (by omega) (by omega) (fun z => ?_) (fun z => ?_)
  · refine tail g1 f b1 b2 (fun i r hi => ?_) hM0
    have hil := (List.getElem?_eq_some_iff.mp hi).1
    rw [List.length_eraseIdx_of_lt hj] at hil
    rw [List.getElem?_eraseIdx_of_lt (by omega)] at hi
    exact k5 i r hi
  · refine gh_aload_n hK d_AL_fastRemove_22 rfl ?_
    refine gh_iload_n hK d_AL_fastRemove_23 rfl ?_
    refine gh_iconst (v := nI 1) hK d_AL_fastRemove_24 (by decide) ?_
    refine gh_addN hK d_AL_fastRemove_25 ?_
    refine gh_aload_n hK d_AL_fastRemove_26 rfl ?_
    refine gh_iload_n hK d_AL_fastRemove_27 rfl ?_
    refine gh_iload_n hK d_AL_fastRemove_28 rfl ?_
    refine gh_iload_n hK d_AL_fastRemove_29 rfl ?_
    refine gh_subN hK d_AL_fastRemove_30 (by omega) ?_
    refine gh_copyq (ci := ci) (r := r) (f := f) (f2 := f) (sp := j + 1) (dp := j) hK d_AL_fastRemove_31 km_AL_112 b2 b2 hc hci (fun i hi y hy => ?_) (by omega) (by omega) (by omega) (by omega) rfl (Nat.le_of_ble_eq_true rfl) (Nat.le_of_ble_eq_true rfl) ?_
    · have hi2 : j + 1 + i < rs.length := by omega
      have := k5 (j + 1 + i) _ (List.getElem?_eq_getElem hi2)
      rw [hy] at this
      cases this
      obtain ⟨fs, hfs⟩ := (hT.M hM0 htg) _ (List.getElem_mem hi2)
      exact ⟨tg, fs, hfs⟩
    refine tail _ _ (by rw [gh_un n0]; exact b1) gh_us (fun i r hi => ?_) (hM0.tr (gh_M.up b2 (by simp)))
    have hil := (List.getElem?_eq_some_iff.mp hi).1
    rw [List.length_eraseIdx_of_lt hj] at hil
    by_cases q : i < j
    · rw [List.getElem?_eraseIdx_of_lt q] at hi
      rw [pk_cpy_out (by omega)]
      exact k5 i r hi
    · rw [List.getElem?_eraseIdx_of_ge (by omega)] at hi
      rw [pk_cpy_in (by omega) (by omega), show j + 1 + (i - j) = i + 1 by omega]
      exact k5 (i + 1) r hi
set_option maxRecDepth 20000 in
set_option maxHeartbeats 4000000 in
theorem c_AL_remove (l : Launch) (G : GG) {g : GH} {la tl to : Nat} {rs : List Nat} {ci tg j : Nat} {r : vw_C} (h : Al G g la tl to rs) (hj : j < rs.length) (hT : AlT g ci tg rs) (hc : vwCl[ci]? = some r) (hci : r.1 = "SpellDesk$Entry" ∨ r.1 = "SpellDesk$Rule") (htg : tg ∉ [tl, to]) : gMet l G y_AL_remove b_AL_remove 4 (some (.object "java/lang/Object")) (rmk 2 0 0 87) [.ref la, .int (nI j)] g (fun v g' => (∃ q, v = some (.ref q)) ∧ Al G g' la tl to (rs.eraseIdx j) ∧ gh_M [tl, to] g g') := by
  refine gMet.of [some (.ref la), some (.int (nI j)), none, none] (by decide +kernel) rfl (Nat.le_of_ble_eq_true rfl) rfl (fun X hK hI hE => ?_)
  have hh := h
  obtain ⟨oa, N, mo, f, h0⟩ := h
  obtain ⟨k1, k2, k3, k4, k5⟩ := id h0
  obtain ⟨k6, k7⟩ : 10 ≤ N ∧ g oa = some (to, qArr G N f) := k2.resolve_left (fun q => by omega)
  obtain ⟨q, hq⟩ : ∃ q, rs[j]? = some q := ⟨_, List.getElem?_eq_getElem hj⟩
  refine gh_iload_n hK d_AL_remove_0 rfl ?_
  refine gh_aload_n hK d_AL_remove_1 rfl ?_
  refine gh_get hK d_AL_remove_2 in_AL rfl k1 2 (by decide) kf_AL_48 rfl rfl ?_
  refine gh_callS (rest := []) [.int (nI j), .int (nI rs.length)] hK (c_Obs_checkIndex l G (g := g) hj (by omega)) Y_Obs_checkIndex V_Obs_checkIndex km_AL_118 rfl d_AL_remove_5 rfl rfl (Nat.le_of_ble_eq_true rfl) ⟨(Nat.le_of_ble_eq_true rfl), (Nat.le_of_ble_eq_true rfl)⟩ ⟨(Nat.le_of_ble_eq_true rfl), (Nat.le_of_ble_eq_true rfl)⟩ (fun v g' hp => ?_)
  rw [hp.1, hp.2]
  show gh_W l G _ X g _ _ [some (.ref la), some (.int (nI j)), none, none] 8 [.int (nI j)]
  refine gh_pop hK d_AL_remove_8 rfl ?_
  refine gh_aload_n hK d_AL_remove_9 rfl ?_
  refine gh_get hK d_AL_remove_10 in_AL rfl k1 1 (by decide) kf_AL_9 rfl rfl ?_
  refine gh_astore_n (lv' := [some (.ref la), some (.int (nI j)), some (.ref oa), none]) hK d_AL_remove_13 (Nat.le_of_ble_eq_true rfl) rfl ?_
  refine gh_aload_n hK d_AL_remove_14 rfl ?_
  refine gh_iload_n hK d_AL_remove_15 rfl ?_
  refine gh_aaldN (j := j) hK d_AL_remove_16 k7 (by omega) (by omega) ?_
  rw [k5 j q hq]
  refine gh_rfS ?_
  refine gh_astore_n (lv' := [some (.ref la), some (.int (nI j)), some (.ref oa), some (.ref q)]) hK d_AL_remove_17 (Nat.le_of_ble_eq_true rfl) rfl ?_
  refine gh_aload_n hK d_AL_remove_18 rfl ?_
  refine gh_aload_n hK d_AL_remove_19 rfl ?_
  refine gh_iload_n hK d_AL_remove_20 rfl ?_
  refine gh_callV (rest := []) [.ref oa, .int (nI j)] hK (c_AL_fastRemove l G h0 hj hT hc hci htg) Y_AL_fastRemove V_AL_fastRemove km_AL_144 k1 rfl rfl d_AL_remove_21 rfl rfl (Nat.le_of_ble_eq_true rfl) ⟨(Nat.le_of_ble_eq_true rfl), (Nat.le_of_ble_eq_true rfl)⟩ ⟨(Nat.le_of_ble_eq_true rfl), (Nat.le_of_ble_eq_true rfl)⟩ (fun v g2 hp => ?_)
  obtain ⟨rfl, hp1, hp2⟩ := hp
  show gh_W l G _ X g2 _ _ [some (.ref la), some (.int (nI j)), some (.ref oa), some (.ref q)] 24 []
  refine gh_aload_n hK d_AL_remove_24 rfl ?_
  exact gh_aret (Or.inl ⟨_, rfl⟩) (Or.inr ⟨_, rfl⟩) hK hE d_AL_remove_25 (Nat.le_of_ble_eq_true rfl) (Nat.le_of_ble_eq_true rfl) ⟨⟨q, rfl⟩, hp1, hp2⟩
set_option maxRecDepth 20000 in
set_option maxHeartbeats 4000000 in
theorem c_AL_clear (l : Launch) (G : GG) {g : GH} {la tl to : Nat} {rs : List Nat} (h : Al G g la tl to rs) : gMet l G y_AL_clear b_AL_clear 4 none (rmk 0 0 0 0) [.ref la] g (fun v g' => v = none ∧ Al G g' la tl to [] ∧ gh_M [tl, to] g g') := by
  refine gMet.of [some (.ref la), none, none, none] (by decide +kernel) rfl (Nat.le_of_ble_eq_true rfl) rfl (fun X hK hI hE => ?_)
  obtain ⟨oa, N, mo, f, k1, k2, k3, k4, k5⟩ := h
  have loop : ∀ (m i : Nat) (g1 : GH) (f1 : Nat → Option Nat), i + m = rs.length → g1 la = some (tl, .inr (11, [.int (mo + nI 1), .ref oa, .int (nI 0)])) → ((N = 0 ∧ oa = G.2.2.2.2.1) ∨ (10 ≤ N ∧ g1 oa = some (to, qArr G N f1))) → gh_M [tl, to] g g1 → gh_W l G (rmk 0 0 0 0) X g1 0 0 [some (.ref la), some (.ref oa), some (.int (nI rs.length)), some (.int (nI i))] 27 [] := by
    intro m
    induction m with
    | zero =>
      intro i g1 f1 hi j1 j2 hM
      refine gh_iload_n hK d_AL_clear_27 rfl ?_
      refine gh_iload_n hK d_AL_clear_28 rfl ?_
      refine gh_icmp_geN hK d_AL_clear_29 (tgt := 42) (by decide) (by omega) (by omega) (fun z => ?_) (fun z => absurd z (by omega))
      exact gh_vret hK hE d_AL_clear_42 (Nat.le_of_ble_eq_true rfl) (Nat.le_of_ble_eq_true rfl) ⟨rfl, ⟨oa, N, mo + nI 1, f1, j1, j2, Nat.zero_le _, k4, fun i r hi => by simp at hi⟩, hM⟩
    | succ m ih =>
      intro i g1 f1 hi j1 j2 hM
      obtain ⟨j6, j7⟩ := j2.resolve_left (fun q => by omega)
      have n0 : la ≠ oa := fun z => by rw [z, j7] at j1; cases j1
      refine gh_iload_n hK d_AL_clear_27 rfl ?_
      refine gh_iload_n hK d_AL_clear_28 rfl ?_
      refine gh_icmp_geN hK d_AL_clear_29 (tgt := 42) (by decide) (by omega) (by omega) (fun z => absurd z (by omega)) (fun z => ?_)
      refine gh_aload_n hK d_AL_clear_32 rfl ?_
      refine gh_iload_n hK d_AL_clear_33 rfl ?_
      refine gh_null hK d_AL_clear_34 ?_
      refine gh_aastN hK d_AL_clear_35 j7 (by omega) (by omega) ?_
      refine gh_incN (lv' := [some (.ref la), some (.ref oa), some (.int (nI rs.length)), some (.int (nI (i + 1)))]) hK d_AL_clear_36 rfl rfl ?_
      refine gh_goto (tgt := 27) hK d_AL_clear_39 (by decide) ?_
      exact ih (i + 1) _ _ (by omega) (by rw [gh_un n0]; exact j1) (Or.inr ⟨j6, gh_us⟩) (hM.tr (gh_M.up j7 (by simp)))
  refine gh_aload_n hK d_AL_clear_0 rfl ?_
  refine gh_dup hK d_AL_clear_1 rfl ?_
  refine gh_getM hK d_AL_clear_2 k1 kf_AL_63 rfl ?_
  refine gh_iconst (v := nI 1) hK d_AL_clear_5 (by decide) ?_
  refine gh_iadd hK d_AL_clear_6 ?_
  refine gh_putM (fs' := [.int (mo + nI 1), .ref oa, .int (nI rs.length)]) hK d_AL_clear_7 k1 kf_AL_63 (Nat.le_of_ble_eq_true rfl) rfl ?_
  have hM0 : gh_M [tl, to] g (gh_up g la tl (.inr (11, [.int (mo + nI 1), .ref oa, .int (nI rs.length)]))) := gh_M.up k1 (by simp)
  have a1 : AlA G (gh_up g la tl (.inr (11, [.int (mo + nI 1), .ref oa, .int (nI rs.length)]))) la tl to oa N (mo + nI 1) f rs := ⟨gh_us, k2.imp id (fun q => ⟨q.1, by rw [gh_un (fun z => by rw [z, k1] at q; cases q.2)]; exact q.2⟩), k3, k4, k5⟩
  generalize gh_up g la tl (.inr (11, [.int (mo + nI 1), .ref oa, .int (nI rs.length)])) = g1 at hM0 a1 ⊢
  have b1 := a1.1
  refine gh_aload_n hK d_AL_clear_10 rfl ?_
  refine gh_get hK d_AL_clear_11 in_AL rfl b1 1 (by decide) kf_AL_9 rfl rfl ?_
  refine gh_astore_n (lv' := [some (.ref la), some (.ref oa), none, none]) hK d_AL_clear_14 (Nat.le_of_ble_eq_true rfl) rfl ?_
  refine gh_aload_n hK d_AL_clear_15 rfl ?_
  refine gh_get hK d_AL_clear_16 in_AL rfl b1 2 (by decide) kf_AL_48 rfl rfl ?_
  refine gh_istore_n (lv' := [some (.ref la), some (.ref oa), some (.int (nI rs.length)), none]) hK d_AL_clear_19 (Nat.le_of_ble_eq_true rfl) rfl ?_
  refine gh_aload_n hK d_AL_clear_20 rfl ?_
  refine gh_iconst (v := nI 0) hK d_AL_clear_21 (by decide) ?_
  refine gh_dup_x1 hK d_AL_clear_22 rfl rfl ?_
  refine gh_put (fs' := [.int (mo + nI 1), .ref oa, .int (nI 0)]) hK d_AL_clear_23 in_AL t_AL ty_AL nm_AL rfl b1 2 (by decide) kf_AL_48 rfl rfl rfl rfl (Nat.le_of_ble_eq_true rfl) rfl ?_
  refine gh_istore_n (lv' := [some (.ref la), some (.ref oa), some (.int (nI rs.length)), some (.int (nI 0))]) hK d_AL_clear_26 (Nat.le_of_ble_eq_true rfl) rfl ?_
  exact loop rs.length 0 _ f (by omega) gh_us (a1.2.1.imp id (fun q => ⟨q.1, by rw [gh_un (fun z => by rw [z, b1] at q; cases q.2)]; exact q.2⟩)) (hM0.tr (gh_M.up b1 (by simp)))
set_option maxRecDepth 20000 in
set_option maxHeartbeats 4000000 in
theorem c_AbC_init (l : Launch) (G : GG) {g : GH} {la : Nat}  : gMet l G y_AbC_init b_AbC_init 1 none (rmk 1 0 0 12) [.ref la] g (fun v g' => v = none ∧ g' = g) := by
  refine gMet.of [some (.ref la)] (by decide +kernel) rfl (Nat.le_of_ble_eq_true rfl) rfl (fun X hK hI hE => ?_)
  refine gh_aload_n hK d_AbC_init_0 rfl ?_
  refine gh_objInit hK d_AbC_init_1 km_AbC_1 w_oi w_oc rfl (Nat.le_of_ble_eq_true rfl) (Nat.le_of_ble_eq_true rfl) ?_
  exact gh_vret hK hE d_AbC_init_4 (Nat.le_of_ble_eq_true rfl) (Nat.le_of_ble_eq_true rfl) ⟨rfl, rfl⟩
set_option maxRecDepth 20000 in
set_option maxHeartbeats 4000000 in
theorem c_AbL_init (l : Launch) (G : GG) {g : GH} {la tl : Nat} {v0 : Int32} {v1 v2 : Value} (h : g la = some (tl, .inr (11, [.int v0, v1, v2]))) : gMet l G y_AbL_init b_AbL_init 1 none (rmk 2 0 0 32) [.ref la] g (fun v g' => v = none ∧ g' = gh_up g la tl (.inr (11, [.int (nI 0), v1, v2]))) := by
  refine gMet.of [some (.ref la)] (by decide +kernel) rfl (Nat.le_of_ble_eq_true rfl) rfl (fun X hK hI hE => ?_)
  refine gh_aload_n hK d_AbL_init_0 rfl ?_
  refine gh_callI (rest := []) [] hK (c_AbC_init l G (g := g) (la := la)) Y_AbC_init rfl V_AbC_init km_AbL_1 rfl d_AbL_init_1 rfl rfl (Nat.le_of_ble_eq_true rfl) ⟨(Nat.le_of_ble_eq_true rfl), (Nat.le_of_ble_eq_true rfl)⟩ ⟨(Nat.le_of_ble_eq_true rfl), (Nat.le_of_ble_eq_true rfl)⟩ (fun v g' hp => ?_)
  rw [hp.1, hp.2]
  show gh_W l G _ X g _ _ [some (.ref la)] 4 []
  refine gh_aload_n hK d_AbL_init_4 rfl ?_
  refine gh_iconst (v := nI 0) hK d_AbL_init_5 (by decide) ?_
  refine gh_put (fs' := [.int (nI 0), v1, v2]) hK d_AbL_init_6 in_AL t_AL ty_AL nm_AL rfl h 0 (by decide) kf_AbL_7 rfl rfl rfl rfl (Nat.le_of_ble_eq_true rfl) rfl ?_
  exact gh_vret hK hE d_AbL_init_9 (Nat.le_of_ble_eq_true rfl) (Nat.le_of_ble_eq_true rfl) ⟨rfl, rfl⟩
set_option maxRecDepth 20000 in
set_option maxHeartbeats 4000000 in
theorem c_AL_init (l : Launch) (G : GG) {g : GH} {la tl : Nat} (to : Nat) (h : g la = some (tl, .inr (11, [.int 0, .null, .int 0]))) : gMet l G y_AL_init b_AL_init 1 none (rmk 3 0 0 52) [.ref la] g (fun v g' => v = none ∧ Al G g' la tl to [] ∧ gh_N [la] g g') := by
  refine gMet.of [some (.ref la)] (by decide +kernel) rfl (Nat.le_of_ble_eq_true rfl) rfl (fun X hK hI hE => ?_)
  refine gh_aload_n hK d_AL_init_0 rfl ?_
  refine gh_callI (rest := []) [] hK (c_AbL_init l G h) Y_AbL_init rfl V_AbL_init km_AL_1 rfl d_AL_init_1 rfl rfl (Nat.le_of_ble_eq_true rfl) ⟨(Nat.le_of_ble_eq_true rfl), (Nat.le_of_ble_eq_true rfl)⟩ ⟨(Nat.le_of_ble_eq_true rfl), (Nat.le_of_ble_eq_true rfl)⟩ (fun v g' hp => ?_)
  rw [hp.1, hp.2]
  show gh_W l G _ X (gh_up g la tl (.inr (11, [.int (nI 0), .null, .int 0]))) _ _ [some (.ref la)] 4 []
  refine gh_aload_n hK d_AL_init_4 rfl ?_
  refine gh_de hK d_AL_init_5 kf_AL_39 ?_
  refine gh_put (fs' := [.int (nI 0), .ref G.2.2.2.2.1, .int 0]) hK d_AL_init_8 in_AL t_AL ty_AL nm_AL rfl gh_us 1 (by decide) kf_AL_9 rfl rfl rfl rfl (Nat.le_of_ble_eq_true rfl) rfl ?_
  exact gh_vret hK hE d_AL_init_11 (Nat.le_of_ble_eq_true rfl) (Nat.le_of_ble_eq_true rfl) ⟨rfl, ⟨G.2.2.2.2.1, 0, nI 0, fun _ => none, gh_us, Or.inl ⟨rfl, rfl⟩, Nat.le_refl _, Nat.zero_le _, fun i r hi => by simp at hi⟩, (gh_N.up (by simp)).tr (gh_N.up (by simp))⟩
end
section
abbrev b_En_init : ByteArray := prog_3_method_1_code
def y_En_init : MethodName := ⟨"SpellDesk$Entry", "<init>", "(LSpellDesk$Letters;I)V"⟩
set_option maxRecDepth 20000 in
theorem Y_En_init : gh_Y y_En_init b_En_init 3 none 2 := ⟨gt_in (i := 439) rfl rfl, gt_in (i := 24) (by decide +kernel) rfl, by decide +kernel, by decide +kernel, by decide +kernel⟩
theorem V_En_init : Cond.instanceMethod y_En_init ∈ gTbl := (gt_in (i := 438) (by decide +kernel) rfl)
theorem d_En_init_0 : decode b_En_init 0 = .ok (.aload_n 0, 1) := by decide +kernel
theorem d_En_init_1 : decode b_En_init 1 = .ok (.invokespecial 1, 3) := by decide +kernel
theorem d_En_init_4 : decode b_En_init 4 = .ok (.aload_n 0, 1) := by decide +kernel
theorem d_En_init_5 : decode b_En_init 5 = .ok (.aload_n 1, 1) := by decide +kernel
theorem d_En_init_6 : decode b_En_init 6 = .ok (.putfield 7, 3) := by decide +kernel
theorem d_En_init_9 : decode b_En_init 9 = .ok (.aload_n 0, 1) := by decide +kernel
theorem d_En_init_10 : decode b_En_init 10 = .ok (.iload_n 2, 1) := by decide +kernel
theorem d_En_init_11 : decode b_En_init 11 = .ok (.putfield 13, 3) := by decide +kernel
theorem d_En_init_14 : decode b_En_init 14 = .ok (.return_, 1) := by decide +kernel
abbrev b_En_beginsWith : ByteArray := prog_3_method_2_code
def y_En_beginsWith : MethodName := ⟨"SpellDesk$Entry", "beginsWith", "(LSpellDesk$Letters;II)Z"⟩
set_option maxRecDepth 20000 in
theorem Y_En_beginsWith : gh_Y y_En_beginsWith b_En_beginsWith 4 (some .boolean) 3 := ⟨gt_in (i := 976) rfl rfl, gt_in (i := 24) (by decide +kernel) rfl, by decide +kernel, by decide +kernel, by decide +kernel⟩
theorem V_En_beginsWith : Cond.instanceMethod y_En_beginsWith ∈ gTbl ∧ Cond.selects y_En_beginsWith.cls y_En_beginsWith y_En_beginsWith ∈ gTbl := ⟨(gt_in (i := 974) (by decide +kernel) rfl), (gt_in (i := 975) (by decide +kernel) rfl)⟩
theorem d_En_beginsWith_0 : decode b_En_beginsWith 0 = .ok (.iload_n 3, 1) := by decide +kernel
theorem d_En_beginsWith_1 : decode b_En_beginsWith 1 = .ok (.aload_n 0, 1) := by decide +kernel
theorem d_En_beginsWith_2 : decode b_En_beginsWith 2 = .ok (.getfield 7, 3) := by decide +kernel
theorem d_En_beginsWith_5 : decode b_En_beginsWith 5 = .ok (.invokevirtual 17, 3) := by decide +kernel
theorem d_En_beginsWith_8 : decode b_En_beginsWith 8 = .ok (.if_icmp .gt 22, 3) := by decide +kernel
theorem d_En_beginsWith_11 : decode b_En_beginsWith 11 = .ok (.aload_n 0, 1) := by decide +kernel
theorem d_En_beginsWith_12 : decode b_En_beginsWith 12 = .ok (.getfield 7, 3) := by decide +kernel
theorem d_En_beginsWith_15 : decode b_En_beginsWith 15 = .ok (.iconst 0, 1) := by decide +kernel
theorem d_En_beginsWith_16 : decode b_En_beginsWith 16 = .ok (.iload_n 3, 1) := by decide +kernel
theorem d_En_beginsWith_17 : decode b_En_beginsWith 17 = .ok (.aload_n 1, 1) := by decide +kernel
theorem d_En_beginsWith_18 : decode b_En_beginsWith 18 = .ok (.iload_n 2, 1) := by decide +kernel
theorem d_En_beginsWith_19 : decode b_En_beginsWith 19 = .ok (.iload_n 3, 1) := by decide +kernel
theorem d_En_beginsWith_20 : decode b_En_beginsWith 20 = .ok (.invokevirtual 23, 3) := by decide +kernel
theorem d_En_beginsWith_23 : decode b_En_beginsWith 23 = .ok (.ifCond .ne 7, 3) := by decide +kernel
theorem d_En_beginsWith_26 : decode b_En_beginsWith 26 = .ok (.iconst 1, 1) := by decide +kernel
theorem d_En_beginsWith_27 : decode b_En_beginsWith 27 = .ok (.goto 4, 3) := by decide +kernel
theorem d_En_beginsWith_30 : decode b_En_beginsWith 30 = .ok (.iconst 0, 1) := by decide +kernel
theorem d_En_beginsWith_31 : decode b_En_beginsWith 31 = .ok (.ireturn, 1) := by decide +kernel
theorem kf_En_7 : Cond.fieldLink "SpellDesk$Entry" 7 "SpellDesk$Entry" "word" "LSpellDesk$Letters;" ∈ gTbl := (gt_in (i := 441) (by decide +kernel) rfl)
theorem kf_En_13 : Cond.fieldLink "SpellDesk$Entry" 13 "SpellDesk$Entry" "flags" "I" ∈ gTbl := (gt_in (i := 446) (by decide +kernel) rfl)
theorem km_En_1 : Cond.methodLink "SpellDesk$Entry" 1 ⟨"java/lang/Object", "<init>", "()V"⟩ ∈ gTbl := (gt_in (i := 440) (by decide +kernel) rfl)
theorem km_En_17 : Cond.methodLink "SpellDesk$Entry" 17 ⟨"SpellDesk$Letters", "count", "()I"⟩ ∈ gTbl := (gt_in (i := 977) (by decide +kernel) rfl)
theorem km_En_23 : Cond.methodLink "SpellDesk$Entry" 23 ⟨"SpellDesk$Letters", "compare", "(IILSpellDesk$Letters;II)I"⟩ ∈ gTbl := (gt_in (i := 978) (by decide +kernel) rfl)
abbrev b_Dc_init : ByteArray := prog_2_method_1_code
def y_Dc_init : MethodName := ⟨"SpellDesk$Dictionary", "<init>", "()V"⟩
set_option maxRecDepth 20000 in
theorem Y_Dc_init : gh_Y y_Dc_init b_Dc_init 1 none 0 := ⟨gt_in (i := 107) rfl rfl, gt_in (i := 6) (by decide +kernel) rfl, by decide +kernel, by decide +kernel, by decide +kernel⟩
theorem V_Dc_init : Cond.instanceMethod y_Dc_init ∈ gTbl := (gt_in (i := 106) (by decide +kernel) rfl)
theorem d_Dc_init_0 : decode b_Dc_init 0 = .ok (.aload_n 0, 1) := by decide +kernel
theorem d_Dc_init_1 : decode b_Dc_init 1 = .ok (.invokespecial 3, 3) := by decide +kernel
theorem d_Dc_init_4 : decode b_Dc_init 4 = .ok (.aload_n 0, 1) := by decide +kernel
theorem d_Dc_init_5 : decode b_Dc_init 5 = .ok (.new 9, 3) := by decide +kernel
theorem d_Dc_init_8 : decode b_Dc_init 8 = .ok (.dup, 1) := by decide +kernel
theorem d_Dc_init_9 : decode b_Dc_init 9 = .ok (.invokespecial 11, 3) := by decide +kernel
theorem d_Dc_init_12 : decode b_Dc_init 12 = .ok (.putfield 12, 3) := by decide +kernel
theorem d_Dc_init_15 : decode b_Dc_init 15 = .ok (.return_, 1) := by decide +kernel
abbrev b_Dc_rankOf : ByteArray := prog_2_method_6_code
def y_Dc_rankOf : MethodName := ⟨"SpellDesk$Dictionary", "rankOf", "(LSpellDesk$Letters;II)I"⟩
set_option maxRecDepth 20000 in
theorem Y_Dc_rankOf : gh_Y y_Dc_rankOf b_Dc_rankOf 9 (some .int) 3 := ⟨gt_in (i := 376) rfl rfl, gt_in (i := 6) (by decide +kernel) rfl, by decide +kernel, by decide +kernel, by decide +kernel⟩
theorem V_Dc_rankOf : Cond.instanceMethod y_Dc_rankOf ∈ gTbl ∧ Cond.selects y_Dc_rankOf.cls y_Dc_rankOf y_Dc_rankOf ∈ gTbl := ⟨(gt_in (i := 374) (by decide +kernel) rfl), (gt_in (i := 375) (by decide +kernel) rfl)⟩
theorem d_Dc_rankOf_0 : decode b_Dc_rankOf 0 = .ok (.iconst 0, 1) := by decide +kernel
theorem d_Dc_rankOf_1 : decode b_Dc_rankOf 1 = .ok (.istore 4, 2) := by decide +kernel
theorem d_Dc_rankOf_3 : decode b_Dc_rankOf 3 = .ok (.aload_n 0, 1) := by decide +kernel
theorem d_Dc_rankOf_4 : decode b_Dc_rankOf 4 = .ok (.getfield 12, 3) := by decide +kernel
theorem d_Dc_rankOf_7 : decode b_Dc_rankOf 7 = .ok (.invokevirtual 18, 3) := by decide +kernel
theorem d_Dc_rankOf_10 : decode b_Dc_rankOf 10 = .ok (.istore 5, 2) := by decide +kernel
theorem d_Dc_rankOf_12 : decode b_Dc_rankOf 12 = .ok (.iconst 0, 1) := by decide +kernel
theorem d_Dc_rankOf_13 : decode b_Dc_rankOf 13 = .ok (.istore 6, 2) := by decide +kernel
theorem d_Dc_rankOf_15 : decode b_Dc_rankOf 15 = .ok (.iload 6, 2) := by decide +kernel
theorem d_Dc_rankOf_17 : decode b_Dc_rankOf 17 = .ok (.bipush 32, 2) := by decide +kernel
theorem d_Dc_rankOf_19 : decode b_Dc_rankOf 19 = .ok (.if_icmp .ge 72, 3) := by decide +kernel
theorem d_Dc_rankOf_22 : decode b_Dc_rankOf 22 = .ok (.iload 4, 2) := by decide +kernel
theorem d_Dc_rankOf_24 : decode b_Dc_rankOf 24 = .ok (.iload 5, 2) := by decide +kernel
theorem d_Dc_rankOf_26 : decode b_Dc_rankOf 26 = .ok (.if_icmp .ge 65, 3) := by decide +kernel
theorem d_Dc_rankOf_29 : decode b_Dc_rankOf 29 = .ok (.iload 4, 2) := by decide +kernel
theorem d_Dc_rankOf_31 : decode b_Dc_rankOf 31 = .ok (.iload 5, 2) := by decide +kernel
theorem d_Dc_rankOf_33 : decode b_Dc_rankOf 33 = .ok (.iadd, 1) := by decide +kernel
theorem d_Dc_rankOf_34 : decode b_Dc_rankOf 34 = .ok (.iconst 2, 1) := by decide +kernel
theorem d_Dc_rankOf_35 : decode b_Dc_rankOf 35 = .ok (.idiv, 1) := by decide +kernel
theorem d_Dc_rankOf_36 : decode b_Dc_rankOf 36 = .ok (.istore 7, 2) := by decide +kernel
theorem d_Dc_rankOf_38 : decode b_Dc_rankOf 38 = .ok (.aload_n 0, 1) := by decide +kernel
theorem d_Dc_rankOf_39 : decode b_Dc_rankOf 39 = .ok (.getfield 12, 3) := by decide +kernel
theorem d_Dc_rankOf_42 : decode b_Dc_rankOf 42 = .ok (.iload 7, 2) := by decide +kernel
theorem d_Dc_rankOf_44 : decode b_Dc_rankOf 44 = .ok (.invokevirtual 25, 3) := by decide +kernel
theorem d_Dc_rankOf_47 : decode b_Dc_rankOf 47 = .ok (.checkcast 29, 3) := by decide +kernel
theorem d_Dc_rankOf_50 : decode b_Dc_rankOf 50 = .ok (.getfield 35, 3) := by decide +kernel
theorem d_Dc_rankOf_53 : decode b_Dc_rankOf 53 = .ok (.astore 8, 2) := by decide +kernel
theorem d_Dc_rankOf_55 : decode b_Dc_rankOf 55 = .ok (.aload 8, 2) := by decide +kernel
theorem d_Dc_rankOf_57 : decode b_Dc_rankOf 57 = .ok (.iconst 0, 1) := by decide +kernel
theorem d_Dc_rankOf_58 : decode b_Dc_rankOf 58 = .ok (.aload 8, 2) := by decide +kernel
theorem d_Dc_rankOf_60 : decode b_Dc_rankOf 60 = .ok (.invokevirtual 39, 3) := by decide +kernel
theorem d_Dc_rankOf_63 : decode b_Dc_rankOf 63 = .ok (.aload_n 1, 1) := by decide +kernel
theorem d_Dc_rankOf_64 : decode b_Dc_rankOf 64 = .ok (.iload_n 2, 1) := by decide +kernel
theorem d_Dc_rankOf_65 : decode b_Dc_rankOf 65 = .ok (.iload_n 3, 1) := by decide +kernel
theorem d_Dc_rankOf_66 : decode b_Dc_rankOf 66 = .ok (.invokevirtual 44, 3) := by decide +kernel
theorem d_Dc_rankOf_69 : decode b_Dc_rankOf 69 = .ok (.ifCond .ge 12, 3) := by decide +kernel
theorem d_Dc_rankOf_72 : decode b_Dc_rankOf 72 = .ok (.iload 7, 2) := by decide +kernel
theorem d_Dc_rankOf_74 : decode b_Dc_rankOf 74 = .ok (.iconst 1, 1) := by decide +kernel
theorem d_Dc_rankOf_75 : decode b_Dc_rankOf 75 = .ok (.iadd, 1) := by decide +kernel
theorem d_Dc_rankOf_76 : decode b_Dc_rankOf 76 = .ok (.istore 4, 2) := by decide +kernel
theorem d_Dc_rankOf_78 : decode b_Dc_rankOf 78 = .ok (.goto 7, 3) := by decide +kernel
theorem d_Dc_rankOf_81 : decode b_Dc_rankOf 81 = .ok (.iload 7, 2) := by decide +kernel
theorem d_Dc_rankOf_83 : decode b_Dc_rankOf 83 = .ok (.istore 5, 2) := by decide +kernel
theorem d_Dc_rankOf_85 : decode b_Dc_rankOf 85 = .ok (.iinc 6 1, 3) := by decide +kernel
theorem d_Dc_rankOf_88 : decode b_Dc_rankOf 88 = .ok (.goto (-73), 3) := by decide +kernel
theorem d_Dc_rankOf_91 : decode b_Dc_rankOf 91 = .ok (.iload 4, 2) := by decide +kernel
theorem d_Dc_rankOf_93 : decode b_Dc_rankOf 93 = .ok (.ireturn, 1) := by decide +kernel
abbrev b_Dc_at : ByteArray := prog_2_method_5_code
def y_Dc_at : MethodName := ⟨"SpellDesk$Dictionary", "at", "(ILSpellDesk$Letters;II)LSpellDesk$Entry;"⟩
set_option maxRecDepth 20000 in
theorem Y_Dc_at : gh_Y y_Dc_at b_Dc_at 6 (some (.object "SpellDesk$Entry")) 4 := ⟨gt_in (i := 402) rfl rfl, gt_in (i := 6) (by decide +kernel) rfl, by decide +kernel, by decide +kernel, by decide +kernel⟩
theorem V_Dc_at : Cond.instanceMethod y_Dc_at ∈ gTbl ∧ Cond.selects y_Dc_at.cls y_Dc_at y_Dc_at ∈ gTbl := ⟨(gt_in (i := 400) (by decide +kernel) rfl), (gt_in (i := 401) (by decide +kernel) rfl)⟩
theorem d_Dc_at_0 : decode b_Dc_at 0 = .ok (.aload_n 0, 1) := by decide +kernel
theorem d_Dc_at_1 : decode b_Dc_at 1 = .ok (.iload_n 1, 1) := by decide +kernel
theorem d_Dc_at_2 : decode b_Dc_at 2 = .ok (.invokevirtual 31, 3) := by decide +kernel
theorem d_Dc_at_5 : decode b_Dc_at 5 = .ok (.astore 5, 2) := by decide +kernel
theorem d_Dc_at_7 : decode b_Dc_at 7 = .ok (.aload 5, 2) := by decide +kernel
theorem d_Dc_at_9 : decode b_Dc_at 9 = .ok (.ifnull 27, 3) := by decide +kernel
theorem d_Dc_at_12 : decode b_Dc_at 12 = .ok (.aload 5, 2) := by decide +kernel
theorem d_Dc_at_14 : decode b_Dc_at 14 = .ok (.getfield 35, 3) := by decide +kernel
theorem d_Dc_at_17 : decode b_Dc_at 17 = .ok (.iconst 0, 1) := by decide +kernel
theorem d_Dc_at_18 : decode b_Dc_at 18 = .ok (.aload 5, 2) := by decide +kernel
theorem d_Dc_at_20 : decode b_Dc_at 20 = .ok (.getfield 35, 3) := by decide +kernel
theorem d_Dc_at_23 : decode b_Dc_at 23 = .ok (.invokevirtual 39, 3) := by decide +kernel
theorem d_Dc_at_26 : decode b_Dc_at 26 = .ok (.aload_n 2, 1) := by decide +kernel
theorem d_Dc_at_27 : decode b_Dc_at 27 = .ok (.iload_n 3, 1) := by decide +kernel
theorem d_Dc_at_28 : decode b_Dc_at 28 = .ok (.iload 4, 2) := by decide +kernel
theorem d_Dc_at_30 : decode b_Dc_at 30 = .ok (.invokevirtual 44, 3) := by decide +kernel
theorem d_Dc_at_33 : decode b_Dc_at 33 = .ok (.ifCond .eq 5, 3) := by decide +kernel
theorem d_Dc_at_36 : decode b_Dc_at 36 = .ok (.aconst_null, 1) := by decide +kernel
theorem d_Dc_at_37 : decode b_Dc_at 37 = .ok (.areturn, 1) := by decide +kernel
theorem d_Dc_at_38 : decode b_Dc_at 38 = .ok (.aload 5, 2) := by decide +kernel
theorem d_Dc_at_40 : decode b_Dc_at 40 = .ok (.areturn, 1) := by decide +kernel
abbrev b_Dc_at1 : ByteArray := prog_2_method_4_code
def y_Dc_at1 : MethodName := ⟨"SpellDesk$Dictionary", "at", "(I)LSpellDesk$Entry;"⟩
set_option maxRecDepth 20000 in
theorem Y_Dc_at1 : gh_Y y_Dc_at1 b_Dc_at1 2 (some (.object "SpellDesk$Entry")) 1 := ⟨gt_in (i := 406) rfl rfl, gt_in (i := 6) (by decide +kernel) rfl, by decide +kernel, by decide +kernel, by decide +kernel⟩
theorem V_Dc_at1 : Cond.instanceMethod y_Dc_at1 ∈ gTbl ∧ Cond.selects y_Dc_at1.cls y_Dc_at1 y_Dc_at1 ∈ gTbl := ⟨(gt_in (i := 404) (by decide +kernel) rfl), (gt_in (i := 405) (by decide +kernel) rfl)⟩
theorem d_Dc_at1_0 : decode b_Dc_at1 0 = .ok (.iload_n 1, 1) := by decide +kernel
theorem d_Dc_at1_1 : decode b_Dc_at1 1 = .ok (.ifCond .lt 28, 3) := by decide +kernel
theorem d_Dc_at1_4 : decode b_Dc_at1 4 = .ok (.iload_n 1, 1) := by decide +kernel
theorem d_Dc_at1_5 : decode b_Dc_at1 5 = .ok (.aload_n 0, 1) := by decide +kernel
theorem d_Dc_at1_6 : decode b_Dc_at1 6 = .ok (.getfield 12, 3) := by decide +kernel
theorem d_Dc_at1_9 : decode b_Dc_at1 9 = .ok (.invokevirtual 18, 3) := by decide +kernel
theorem d_Dc_at1_12 : decode b_Dc_at1 12 = .ok (.if_icmp .ge 17, 3) := by decide +kernel
theorem d_Dc_at1_15 : decode b_Dc_at1 15 = .ok (.aload_n 0, 1) := by decide +kernel
theorem d_Dc_at1_16 : decode b_Dc_at1 16 = .ok (.getfield 12, 3) := by decide +kernel
theorem d_Dc_at1_19 : decode b_Dc_at1 19 = .ok (.iload_n 1, 1) := by decide +kernel
theorem d_Dc_at1_20 : decode b_Dc_at1 20 = .ok (.invokevirtual 25, 3) := by decide +kernel
theorem d_Dc_at1_23 : decode b_Dc_at1 23 = .ok (.checkcast 29, 3) := by decide +kernel
theorem d_Dc_at1_26 : decode b_Dc_at1 26 = .ok (.goto 4, 3) := by decide +kernel
theorem d_Dc_at1_29 : decode b_Dc_at1 29 = .ok (.aconst_null, 1) := by decide +kernel
theorem d_Dc_at1_30 : decode b_Dc_at1 30 = .ok (.areturn, 1) := by decide +kernel
abbrev b_Dc_count : ByteArray := prog_2_method_2_code
def y_Dc_count : MethodName := ⟨"SpellDesk$Dictionary", "count", "()I"⟩
set_option maxRecDepth 20000 in
theorem Y_Dc_count : gh_Y y_Dc_count b_Dc_count 1 (some .int) 0 := ⟨gt_in (i := 425) rfl rfl, gt_in (i := 6) (by decide +kernel) rfl, by decide +kernel, by decide +kernel, by decide +kernel⟩
theorem V_Dc_count : Cond.instanceMethod y_Dc_count ∈ gTbl ∧ Cond.selects y_Dc_count.cls y_Dc_count y_Dc_count ∈ gTbl := ⟨(gt_in (i := 423) (by decide +kernel) rfl), (gt_in (i := 424) (by decide +kernel) rfl)⟩
theorem d_Dc_count_0 : decode b_Dc_count 0 = .ok (.aload_n 0, 1) := by decide +kernel
theorem d_Dc_count_1 : decode b_Dc_count 1 = .ok (.getfield 12, 3) := by decide +kernel
theorem d_Dc_count_4 : decode b_Dc_count 4 = .ok (.invokevirtual 18, 3) := by decide +kernel
theorem d_Dc_count_7 : decode b_Dc_count 7 = .ok (.ireturn, 1) := by decide +kernel
abbrev b_Dc_insert : ByteArray := prog_2_method_7_code
def y_Dc_insert : MethodName := ⟨"SpellDesk$Dictionary", "insert", "(ILSpellDesk$Entry;)V"⟩
set_option maxRecDepth 20000 in
theorem Y_Dc_insert : gh_Y y_Dc_insert b_Dc_insert 3 none 2 := ⟨gt_in (i := 458) rfl rfl, gt_in (i := 6) (by decide +kernel) rfl, by decide +kernel, by decide +kernel, by decide +kernel⟩
theorem V_Dc_insert : Cond.instanceMethod y_Dc_insert ∈ gTbl ∧ Cond.selects y_Dc_insert.cls y_Dc_insert y_Dc_insert ∈ gTbl := ⟨(gt_in (i := 456) (by decide +kernel) rfl), (gt_in (i := 457) (by decide +kernel) rfl)⟩
theorem d_Dc_insert_0 : decode b_Dc_insert 0 = .ok (.iload_n 1, 1) := by decide +kernel
theorem d_Dc_insert_1 : decode b_Dc_insert 1 = .ok (.ifCond .lt 23, 3) := by decide +kernel
theorem d_Dc_insert_4 : decode b_Dc_insert 4 = .ok (.iload_n 1, 1) := by decide +kernel
theorem d_Dc_insert_5 : decode b_Dc_insert 5 = .ok (.aload_n 0, 1) := by decide +kernel
theorem d_Dc_insert_6 : decode b_Dc_insert 6 = .ok (.getfield 12, 3) := by decide +kernel
theorem d_Dc_insert_9 : decode b_Dc_insert 9 = .ok (.invokevirtual 18, 3) := by decide +kernel
theorem d_Dc_insert_12 : decode b_Dc_insert 12 = .ok (.if_icmp .gt 12, 3) := by decide +kernel
theorem d_Dc_insert_15 : decode b_Dc_insert 15 = .ok (.aload_n 0, 1) := by decide +kernel
theorem d_Dc_insert_16 : decode b_Dc_insert 16 = .ok (.getfield 12, 3) := by decide +kernel
theorem d_Dc_insert_19 : decode b_Dc_insert 19 = .ok (.iload_n 1, 1) := by decide +kernel
theorem d_Dc_insert_20 : decode b_Dc_insert 20 = .ok (.aload_n 2, 1) := by decide +kernel
theorem d_Dc_insert_21 : decode b_Dc_insert 21 = .ok (.invokevirtual 48, 3) := by decide +kernel
theorem d_Dc_insert_24 : decode b_Dc_insert 24 = .ok (.return_, 1) := by decide +kernel
abbrev b_Dc_remove : ByteArray := prog_2_method_8_code
def y_Dc_remove : MethodName := ⟨"SpellDesk$Dictionary", "remove", "(I)V"⟩
set_option maxRecDepth 20000 in
theorem Y_Dc_remove : gh_Y y_Dc_remove b_Dc_remove 2 none 1 := ⟨gt_in (i := 818) rfl rfl, gt_in (i := 6) (by decide +kernel) rfl, by decide +kernel, by decide +kernel, by decide +kernel⟩
theorem V_Dc_remove : Cond.instanceMethod y_Dc_remove ∈ gTbl ∧ Cond.selects y_Dc_remove.cls y_Dc_remove y_Dc_remove ∈ gTbl := ⟨(gt_in (i := 816) (by decide +kernel) rfl), (gt_in (i := 817) (by decide +kernel) rfl)⟩
theorem d_Dc_remove_0 : decode b_Dc_remove 0 = .ok (.iload_n 1, 1) := by decide +kernel
theorem d_Dc_remove_1 : decode b_Dc_remove 1 = .ok (.ifCond .lt 23, 3) := by decide +kernel
theorem d_Dc_remove_4 : decode b_Dc_remove 4 = .ok (.iload_n 1, 1) := by decide +kernel
theorem d_Dc_remove_5 : decode b_Dc_remove 5 = .ok (.aload_n 0, 1) := by decide +kernel
theorem d_Dc_remove_6 : decode b_Dc_remove 6 = .ok (.getfield 12, 3) := by decide +kernel
theorem d_Dc_remove_9 : decode b_Dc_remove 9 = .ok (.invokevirtual 18, 3) := by decide +kernel
theorem d_Dc_remove_12 : decode b_Dc_remove 12 = .ok (.if_icmp .ge 12, 3) := by decide +kernel
theorem d_Dc_remove_15 : decode b_Dc_remove 15 = .ok (.aload_n 0, 1) := by decide +kernel
theorem d_Dc_remove_16 : decode b_Dc_remove 16 = .ok (.getfield 12, 3) := by decide +kernel
theorem d_Dc_remove_19 : decode b_Dc_remove 19 = .ok (.iload_n 1, 1) := by decide +kernel
theorem d_Dc_remove_20 : decode b_Dc_remove 20 = .ok (.invokevirtual 52, 3) := by decide +kernel
theorem d_Dc_remove_23 : decode b_Dc_remove 23 = .ok (.pop, 1) := by decide +kernel
theorem d_Dc_remove_24 : decode b_Dc_remove 24 = .ok (.return_, 1) := by decide +kernel
abbrev b_Dc_clear : ByteArray := prog_2_method_3_code
def y_Dc_clear : MethodName := ⟨"SpellDesk$Dictionary", "clear", "()V"⟩
set_option maxRecDepth 20000 in
theorem Y_Dc_clear : gh_Y y_Dc_clear b_Dc_clear 1 none 0 := ⟨gt_in (i := 1046) rfl rfl, gt_in (i := 6) (by decide +kernel) rfl, by decide +kernel, by decide +kernel, by decide +kernel⟩
theorem V_Dc_clear : Cond.instanceMethod y_Dc_clear ∈ gTbl ∧ Cond.selects y_Dc_clear.cls y_Dc_clear y_Dc_clear ∈ gTbl := ⟨(gt_in (i := 1044) (by decide +kernel) rfl), (gt_in (i := 1045) (by decide +kernel) rfl)⟩
theorem d_Dc_clear_0 : decode b_Dc_clear 0 = .ok (.aload_n 0, 1) := by decide +kernel
theorem d_Dc_clear_1 : decode b_Dc_clear 1 = .ok (.getfield 12, 3) := by decide +kernel
theorem d_Dc_clear_4 : decode b_Dc_clear 4 = .ok (.invokevirtual 22, 3) := by decide +kernel
theorem d_Dc_clear_7 : decode b_Dc_clear 7 = .ok (.return_, 1) := by decide +kernel
theorem kf_Dc_12 : Cond.fieldLink "SpellDesk$Dictionary" 12 "SpellDesk$Dictionary" "list" "Ljava/util/ArrayList;" ∈ gTbl := (gt_in (i := 135) (by decide +kernel) rfl)
theorem kf_Dc_35 : Cond.fieldLink "SpellDesk$Dictionary" 35 "SpellDesk$Entry" "word" "LSpellDesk$Letters;" ∈ gTbl := (gt_in (i := 443) (by decide +kernel) rfl)
theorem kc_Dc_9 : Cond.classLink "SpellDesk$Dictionary" 9 "java/util/ArrayList" ∈ gTbl := (gt_in (i := 109) (by decide +kernel) rfl)
theorem kc_Dc_29 : Cond.classLink "SpellDesk$Dictionary" 29 "SpellDesk$Entry" ∈ gTbl := (gt_in (i := 393) (by decide +kernel) rfl)
theorem km_Dc_3 : Cond.methodLink "SpellDesk$Dictionary" 3 ⟨"java/lang/Object", "<init>", "()V"⟩ ∈ gTbl := (gt_in (i := 108) (by decide +kernel) rfl)
theorem km_Dc_11 : Cond.methodLink "SpellDesk$Dictionary" 11 ⟨"java/util/ArrayList", "<init>", "()V"⟩ ∈ gTbl := (gt_in (i := 111) (by decide +kernel) rfl)
theorem km_Dc_18 : Cond.methodLink "SpellDesk$Dictionary" 18 ⟨"java/util/ArrayList", "size", "()I"⟩ ∈ gTbl := (gt_in (i := 377) (by decide +kernel) rfl)
theorem km_Dc_22 : Cond.methodLink "SpellDesk$Dictionary" 22 ⟨"java/util/ArrayList", "clear", "()V"⟩ ∈ gTbl := (gt_in (i := 1047) (by decide +kernel) rfl)
theorem km_Dc_25 : Cond.methodLink "SpellDesk$Dictionary" 25 ⟨"java/util/ArrayList", "get", "(I)Ljava/lang/Object;"⟩ ∈ gTbl := (gt_in (i := 381) (by decide +kernel) rfl)
theorem km_Dc_31 : Cond.methodLink "SpellDesk$Dictionary" 31 ⟨"SpellDesk$Dictionary", "at", "(I)LSpellDesk$Entry;"⟩ ∈ gTbl := (gt_in (i := 403) (by decide +kernel) rfl)
theorem km_Dc_39 : Cond.methodLink "SpellDesk$Dictionary" 39 ⟨"SpellDesk$Letters", "count", "()I"⟩ ∈ gTbl := (gt_in (i := 394) (by decide +kernel) rfl)
theorem km_Dc_44 : Cond.methodLink "SpellDesk$Dictionary" 44 ⟨"SpellDesk$Letters", "compare", "(IILSpellDesk$Letters;II)I"⟩ ∈ gTbl := (gt_in (i := 395) (by decide +kernel) rfl)
theorem km_Dc_48 : Cond.methodLink "SpellDesk$Dictionary" 48 ⟨"java/util/ArrayList", "add", "(ILjava/lang/Object;)V"⟩ ∈ gTbl := (gt_in (i := 459) (by decide +kernel) rfl)
theorem km_Dc_52 : Cond.methodLink "SpellDesk$Dictionary" 52 ⟨"java/util/ArrayList", "remove", "(I)Ljava/lang/Object;"⟩ ∈ gTbl := (gt_in (i := 819) (by decide +kernel) rfl)
end
section
abbrev b_Ru_init : ByteArray := prog_7_method_1_code
def y_Ru_init : MethodName := ⟨"SpellDesk$Rule", "<init>", "(ZILSpellDesk$Letters;LSpellDesk$Letters;LSpellDesk$Letters;)V"⟩
set_option maxRecDepth 20000 in
theorem Y_Ru_init : gh_Y y_Ru_init b_Ru_init 6 none 5 := ⟨gt_in (i := 153) rfl rfl, gt_in (i := 11) (by decide +kernel) rfl, by decide +kernel, by decide +kernel, by decide +kernel⟩
theorem V_Ru_init : Cond.instanceMethod y_Ru_init ∈ gTbl := (gt_in (i := 152) (by decide +kernel) rfl)
theorem d_Ru_init_0 : decode b_Ru_init 0 = .ok (.aload_n 0, 1) := by decide +kernel
theorem d_Ru_init_1 : decode b_Ru_init 1 = .ok (.invokespecial 3, 3) := by decide +kernel
theorem d_Ru_init_4 : decode b_Ru_init 4 = .ok (.aload_n 0, 1) := by decide +kernel
theorem d_Ru_init_5 : decode b_Ru_init 5 = .ok (.iload_n 1, 1) := by decide +kernel
theorem d_Ru_init_6 : decode b_Ru_init 6 = .ok (.putfield 9, 3) := by decide +kernel
theorem d_Ru_init_9 : decode b_Ru_init 9 = .ok (.aload_n 0, 1) := by decide +kernel
theorem d_Ru_init_10 : decode b_Ru_init 10 = .ok (.iload_n 2, 1) := by decide +kernel
theorem d_Ru_init_11 : decode b_Ru_init 11 = .ok (.putfield 15, 3) := by decide +kernel
theorem d_Ru_init_14 : decode b_Ru_init 14 = .ok (.aload_n 0, 1) := by decide +kernel
theorem d_Ru_init_15 : decode b_Ru_init 15 = .ok (.aload_n 3, 1) := by decide +kernel
theorem d_Ru_init_16 : decode b_Ru_init 16 = .ok (.putfield 19, 3) := by decide +kernel
theorem d_Ru_init_19 : decode b_Ru_init 19 = .ok (.aload_n 0, 1) := by decide +kernel
theorem d_Ru_init_20 : decode b_Ru_init 20 = .ok (.aload 4, 2) := by decide +kernel
theorem d_Ru_init_22 : decode b_Ru_init 22 = .ok (.putfield 23, 3) := by decide +kernel
theorem d_Ru_init_25 : decode b_Ru_init 25 = .ok (.aload_n 0, 1) := by decide +kernel
theorem d_Ru_init_26 : decode b_Ru_init 26 = .ok (.aload 5, 2) := by decide +kernel
theorem d_Ru_init_28 : decode b_Ru_init 28 = .ok (.putfield 26, 3) := by decide +kernel
theorem d_Ru_init_31 : decode b_Ru_init 31 = .ok (.return_, 1) := by decide +kernel
abbrev b_Ru_addStands : ByteArray := prog_7_method_3_code
def y_Ru_addStands : MethodName := ⟨"SpellDesk$Rule", "addStands", "(LSpellDesk$Letters;II)Z"⟩
set_option maxRecDepth 20000 in
theorem Y_Ru_addStands : gh_Y y_Ru_addStands b_Ru_addStands 4 (some .boolean) 3 := ⟨gt_in (i := 920) rfl rfl, gt_in (i := 11) (by decide +kernel) rfl, by decide +kernel, by decide +kernel, by decide +kernel⟩
theorem V_Ru_addStands : Cond.instanceMethod y_Ru_addStands ∈ gTbl ∧ Cond.selects y_Ru_addStands.cls y_Ru_addStands y_Ru_addStands ∈ gTbl := ⟨(gt_in (i := 918) (by decide +kernel) rfl), (gt_in (i := 919) (by decide +kernel) rfl)⟩
theorem d_Ru_addStands_0 : decode b_Ru_addStands 0 = .ok (.aload_n 0, 1) := by decide +kernel
theorem d_Ru_addStands_1 : decode b_Ru_addStands 1 = .ok (.aload_n 0, 1) := by decide +kernel
theorem d_Ru_addStands_2 : decode b_Ru_addStands 2 = .ok (.getfield 23, 3) := by decide +kernel
theorem d_Ru_addStands_5 : decode b_Ru_addStands 5 = .ok (.aload_n 1, 1) := by decide +kernel
theorem d_Ru_addStands_6 : decode b_Ru_addStands 6 = .ok (.iload_n 2, 1) := by decide +kernel
theorem d_Ru_addStands_7 : decode b_Ru_addStands 7 = .ok (.iload_n 3, 1) := by decide +kernel
theorem d_Ru_addStands_8 : decode b_Ru_addStands 8 = .ok (.invokevirtual 43, 3) := by decide +kernel
theorem d_Ru_addStands_11 : decode b_Ru_addStands 11 = .ok (.ireturn, 1) := by decide +kernel
abbrev b_Ru_stands : ByteArray := prog_7_method_4_code
def y_Ru_stands : MethodName := ⟨"SpellDesk$Rule", "stands", "(LSpellDesk$Letters;LSpellDesk$Letters;II)Z"⟩
set_option maxRecDepth 20000 in
theorem Y_Ru_stands : gh_Y y_Ru_stands b_Ru_stands 9 (some .boolean) 4 := ⟨gt_in (i := 924) rfl rfl, gt_in (i := 11) (by decide +kernel) rfl, by decide +kernel, by decide +kernel, by decide +kernel⟩
theorem V_Ru_stands : Cond.instanceMethod y_Ru_stands ∈ gTbl ∧ Cond.selects y_Ru_stands.cls y_Ru_stands y_Ru_stands ∈ gTbl := ⟨(gt_in (i := 923) (by decide +kernel) rfl), (gt_sel (n := 5) (i := 14) (by decide +kernel))⟩
theorem d_Ru_stands_0 : decode b_Ru_stands 0 = .ok (.aload_n 1, 1) := by decide +kernel
theorem d_Ru_stands_1 : decode b_Ru_stands 1 = .ok (.invokevirtual 34, 3) := by decide +kernel
theorem d_Ru_stands_4 : decode b_Ru_stands 4 = .ok (.istore 5, 2) := by decide +kernel
theorem d_Ru_stands_6 : decode b_Ru_stands 6 = .ok (.iload 5, 2) := by decide +kernel
theorem d_Ru_stands_8 : decode b_Ru_stands 8 = .ok (.iload 4, 2) := by decide +kernel
theorem d_Ru_stands_10 : decode b_Ru_stands 10 = .ok (.if_icmp .le 5, 3) := by decide +kernel
theorem d_Ru_stands_13 : decode b_Ru_stands 13 = .ok (.iconst 0, 1) := by decide +kernel
theorem d_Ru_stands_14 : decode b_Ru_stands 14 = .ok (.ireturn, 1) := by decide +kernel
theorem d_Ru_stands_15 : decode b_Ru_stands 15 = .ok (.aload_n 0, 1) := by decide +kernel
theorem d_Ru_stands_16 : decode b_Ru_stands 16 = .ok (.getfield 9, 3) := by decide +kernel
theorem d_Ru_stands_19 : decode b_Ru_stands 19 = .ok (.ifCond .eq 7, 3) := by decide +kernel
theorem d_Ru_stands_22 : decode b_Ru_stands 22 = .ok (.iload_n 3, 1) := by decide +kernel
theorem d_Ru_stands_23 : decode b_Ru_stands 23 = .ok (.goto 10, 3) := by decide +kernel
theorem d_Ru_stands_26 : decode b_Ru_stands 26 = .ok (.iload_n 3, 1) := by decide +kernel
theorem d_Ru_stands_27 : decode b_Ru_stands 27 = .ok (.iload 4, 2) := by decide +kernel
theorem d_Ru_stands_29 : decode b_Ru_stands 29 = .ok (.iadd, 1) := by decide +kernel
theorem d_Ru_stands_30 : decode b_Ru_stands 30 = .ok (.iload 5, 2) := by decide +kernel
theorem d_Ru_stands_32 : decode b_Ru_stands 32 = .ok (.isub, 1) := by decide +kernel
theorem d_Ru_stands_33 : decode b_Ru_stands 33 = .ok (.istore 6, 2) := by decide +kernel
theorem d_Ru_stands_35 : decode b_Ru_stands 35 = .ok (.iconst 0, 1) := by decide +kernel
theorem d_Ru_stands_36 : decode b_Ru_stands 36 = .ok (.istore 7, 2) := by decide +kernel
theorem d_Ru_stands_38 : decode b_Ru_stands 38 = .ok (.iload 7, 2) := by decide +kernel
theorem d_Ru_stands_40 : decode b_Ru_stands 40 = .ok (.iload 5, 2) := by decide +kernel
theorem d_Ru_stands_42 : decode b_Ru_stands 42 = .ok (.if_icmp .ge 40, 3) := by decide +kernel
theorem d_Ru_stands_45 : decode b_Ru_stands 45 = .ok (.aload_n 1, 1) := by decide +kernel
theorem d_Ru_stands_46 : decode b_Ru_stands 46 = .ok (.iload 7, 2) := by decide +kernel
theorem d_Ru_stands_48 : decode b_Ru_stands 48 = .ok (.invokevirtual 47, 3) := by decide +kernel
theorem d_Ru_stands_51 : decode b_Ru_stands 51 = .ok (.istore 8, 2) := by decide +kernel
theorem d_Ru_stands_53 : decode b_Ru_stands 53 = .ok (.iload 8, 2) := by decide +kernel
theorem d_Ru_stands_55 : decode b_Ru_stands 55 = .ok (.bipush 46, 2) := by decide +kernel
theorem d_Ru_stands_57 : decode b_Ru_stands 57 = .ok (.if_icmp .eq 19, 3) := by decide +kernel
theorem d_Ru_stands_60 : decode b_Ru_stands 60 = .ok (.iload 8, 2) := by decide +kernel
theorem d_Ru_stands_62 : decode b_Ru_stands 62 = .ok (.aload_n 2, 1) := by decide +kernel
theorem d_Ru_stands_63 : decode b_Ru_stands 63 = .ok (.iload 6, 2) := by decide +kernel
theorem d_Ru_stands_65 : decode b_Ru_stands 65 = .ok (.iload 7, 2) := by decide +kernel
theorem d_Ru_stands_67 : decode b_Ru_stands 67 = .ok (.iadd, 1) := by decide +kernel
theorem d_Ru_stands_68 : decode b_Ru_stands 68 = .ok (.invokevirtual 47, 3) := by decide +kernel
theorem d_Ru_stands_71 : decode b_Ru_stands 71 = .ok (.if_icmp .eq 5, 3) := by decide +kernel
theorem d_Ru_stands_74 : decode b_Ru_stands 74 = .ok (.iconst 0, 1) := by decide +kernel
theorem d_Ru_stands_75 : decode b_Ru_stands 75 = .ok (.ireturn, 1) := by decide +kernel
theorem d_Ru_stands_76 : decode b_Ru_stands 76 = .ok (.iinc 7 1, 3) := by decide +kernel
theorem d_Ru_stands_79 : decode b_Ru_stands 79 = .ok (.goto (-41), 3) := by decide +kernel
theorem d_Ru_stands_82 : decode b_Ru_stands 82 = .ok (.iconst 1, 1) := by decide +kernel
theorem d_Ru_stands_83 : decode b_Ru_stands 83 = .ok (.ireturn, 1) := by decide +kernel
abbrev b_Ru_goesWith : ByteArray := prog_7_method_2_code
def y_Ru_goesWith : MethodName := ⟨"SpellDesk$Rule", "goesWith", "(LSpellDesk$Entry;)Z"⟩
set_option maxRecDepth 20000 in
theorem Y_Ru_goesWith : gh_Y y_Ru_goesWith b_Ru_goesWith 3 (some .boolean) 1 := ⟨gt_in (i := 945) rfl rfl, gt_in (i := 11) (by decide +kernel) rfl, by decide +kernel, by decide +kernel, by decide +kernel⟩
theorem V_Ru_goesWith : Cond.instanceMethod y_Ru_goesWith ∈ gTbl ∧ Cond.selects y_Ru_goesWith.cls y_Ru_goesWith y_Ru_goesWith ∈ gTbl := ⟨(gt_in (i := 943) (by decide +kernel) rfl), (gt_in (i := 944) (by decide +kernel) rfl)⟩
theorem d_Ru_goesWith_0 : decode b_Ru_goesWith 0 = .ok (.aload_n 1, 1) := by decide +kernel
theorem d_Ru_goesWith_1 : decode b_Ru_goesWith 1 = .ok (.getfield 29, 3) := by decide +kernel
theorem d_Ru_goesWith_4 : decode b_Ru_goesWith 4 = .ok (.invokevirtual 34, 3) := by decide +kernel
theorem d_Ru_goesWith_7 : decode b_Ru_goesWith 7 = .ok (.istore_n 2, 1) := by decide +kernel
theorem d_Ru_goesWith_8 : decode b_Ru_goesWith 8 = .ok (.aload_n 1, 1) := by decide +kernel
theorem d_Ru_goesWith_9 : decode b_Ru_goesWith 9 = .ok (.getfield 40, 3) := by decide +kernel
theorem d_Ru_goesWith_12 : decode b_Ru_goesWith 12 = .ok (.aload_n 0, 1) := by decide +kernel
theorem d_Ru_goesWith_13 : decode b_Ru_goesWith 13 = .ok (.getfield 15, 3) := by decide +kernel
theorem d_Ru_goesWith_16 : decode b_Ru_goesWith 16 = .ok (.iand, 1) := by decide +kernel
theorem d_Ru_goesWith_17 : decode b_Ru_goesWith 17 = .ok (.aload_n 0, 1) := by decide +kernel
theorem d_Ru_goesWith_18 : decode b_Ru_goesWith 18 = .ok (.getfield 15, 3) := by decide +kernel
theorem d_Ru_goesWith_21 : decode b_Ru_goesWith 21 = .ok (.if_icmp .ne 41, 3) := by decide +kernel
theorem d_Ru_goesWith_24 : decode b_Ru_goesWith 24 = .ok (.aload_n 0, 1) := by decide +kernel
theorem d_Ru_goesWith_25 : decode b_Ru_goesWith 25 = .ok (.aload_n 0, 1) := by decide +kernel
theorem d_Ru_goesWith_26 : decode b_Ru_goesWith 26 = .ok (.getfield 19, 3) := by decide +kernel
theorem d_Ru_goesWith_29 : decode b_Ru_goesWith 29 = .ok (.aload_n 1, 1) := by decide +kernel
theorem d_Ru_goesWith_30 : decode b_Ru_goesWith 30 = .ok (.getfield 29, 3) := by decide +kernel
theorem d_Ru_goesWith_33 : decode b_Ru_goesWith 33 = .ok (.iconst 0, 1) := by decide +kernel
theorem d_Ru_goesWith_34 : decode b_Ru_goesWith 34 = .ok (.iload_n 2, 1) := by decide +kernel
theorem d_Ru_goesWith_35 : decode b_Ru_goesWith 35 = .ok (.invokevirtual 43, 3) := by decide +kernel
theorem d_Ru_goesWith_38 : decode b_Ru_goesWith 38 = .ok (.ifCond .eq 24, 3) := by decide +kernel
theorem d_Ru_goesWith_41 : decode b_Ru_goesWith 41 = .ok (.aload_n 0, 1) := by decide +kernel
theorem d_Ru_goesWith_42 : decode b_Ru_goesWith 42 = .ok (.aload_n 0, 1) := by decide +kernel
theorem d_Ru_goesWith_43 : decode b_Ru_goesWith 43 = .ok (.getfield 26, 3) := by decide +kernel
theorem d_Ru_goesWith_46 : decode b_Ru_goesWith 46 = .ok (.aload_n 1, 1) := by decide +kernel
theorem d_Ru_goesWith_47 : decode b_Ru_goesWith 47 = .ok (.getfield 29, 3) := by decide +kernel
theorem d_Ru_goesWith_50 : decode b_Ru_goesWith 50 = .ok (.iconst 0, 1) := by decide +kernel
theorem d_Ru_goesWith_51 : decode b_Ru_goesWith 51 = .ok (.iload_n 2, 1) := by decide +kernel
theorem d_Ru_goesWith_52 : decode b_Ru_goesWith 52 = .ok (.invokevirtual 43, 3) := by decide +kernel
theorem d_Ru_goesWith_55 : decode b_Ru_goesWith 55 = .ok (.ifCond .eq 7, 3) := by decide +kernel
theorem d_Ru_goesWith_58 : decode b_Ru_goesWith 58 = .ok (.iconst 1, 1) := by decide +kernel
theorem d_Ru_goesWith_59 : decode b_Ru_goesWith 59 = .ok (.goto 4, 3) := by decide +kernel
theorem d_Ru_goesWith_62 : decode b_Ru_goesWith 62 = .ok (.iconst 0, 1) := by decide +kernel
theorem d_Ru_goesWith_63 : decode b_Ru_goesWith 63 = .ok (.ireturn, 1) := by decide +kernel
theorem kf_Ru_9 : Cond.fieldLink "SpellDesk$Rule" 9 "SpellDesk$Rule" "atFront" "Z" ∈ gTbl := (gt_in (i := 155) (by decide +kernel) rfl)
theorem kf_Ru_15 : Cond.fieldLink "SpellDesk$Rule" 15 "SpellDesk$Rule" "flag" "I" ∈ gTbl := (gt_in (i := 156) (by decide +kernel) rfl)
theorem kf_Ru_19 : Cond.fieldLink "SpellDesk$Rule" 19 "SpellDesk$Rule" "strip" "LSpellDesk$Letters;" ∈ gTbl := (gt_in (i := 157) (by decide +kernel) rfl)
theorem kf_Ru_23 : Cond.fieldLink "SpellDesk$Rule" 23 "SpellDesk$Rule" "add" "LSpellDesk$Letters;" ∈ gTbl := (gt_in (i := 159) (by decide +kernel) rfl)
theorem kf_Ru_26 : Cond.fieldLink "SpellDesk$Rule" 26 "SpellDesk$Rule" "condition" "LSpellDesk$Letters;" ∈ gTbl := (gt_in (i := 161) (by decide +kernel) rfl)
theorem kf_Ru_29 : Cond.fieldLink "SpellDesk$Rule" 29 "SpellDesk$Entry" "word" "LSpellDesk$Letters;" ∈ gTbl := (gt_in (i := 442) (by decide +kernel) rfl)
theorem kf_Ru_40 : Cond.fieldLink "SpellDesk$Rule" 40 "SpellDesk$Entry" "flags" "I" ∈ gTbl := (gt_in (i := 447) (by decide +kernel) rfl)
theorem km_Ru_3 : Cond.methodLink "SpellDesk$Rule" 3 ⟨"java/lang/Object", "<init>", "()V"⟩ ∈ gTbl := (gt_in (i := 154) (by decide +kernel) rfl)
theorem km_Ru_34 : Cond.methodLink "SpellDesk$Rule" 34 ⟨"SpellDesk$Letters", "count", "()I"⟩ ∈ gTbl := (gt_in (i := 925) (by decide +kernel) rfl)
theorem km_Ru_43 : Cond.methodLink "SpellDesk$Rule" 43 ⟨"SpellDesk$Rule", "stands", "(LSpellDesk$Letters;LSpellDesk$Letters;II)Z"⟩ ∈ gTbl := (gt_in (i := 921) (by decide +kernel) rfl)
theorem km_Ru_47 : Cond.methodLink "SpellDesk$Rule" 47 ⟨"SpellDesk$Letters", "at", "(I)C"⟩ ∈ gTbl := (gt_in (i := 926) (by decide +kernel) rfl)
abbrev b_Rs_init : ByteArray := prog_8_method_1_code
def y_Rs_init : MethodName := ⟨"SpellDesk$RuleList", "<init>", "(Z)V"⟩
set_option maxRecDepth 20000 in
theorem Y_Rs_init : gh_Y y_Rs_init b_Rs_init 3 none 1 := ⟨gt_in (i := 143) rfl rfl, gt_in (i := 10) (by decide +kernel) rfl, by decide +kernel, by decide +kernel, by decide +kernel⟩
theorem V_Rs_init : Cond.instanceMethod y_Rs_init ∈ gTbl := (gt_in (i := 142) (by decide +kernel) rfl)
theorem d_Rs_init_0 : decode b_Rs_init 0 = .ok (.aload_n 0, 1) := by decide +kernel
theorem d_Rs_init_1 : decode b_Rs_init 1 = .ok (.invokespecial 1, 3) := by decide +kernel
theorem d_Rs_init_4 : decode b_Rs_init 4 = .ok (.aload_n 0, 1) := by decide +kernel
theorem d_Rs_init_5 : decode b_Rs_init 5 = .ok (.iload_n 1, 1) := by decide +kernel
theorem d_Rs_init_6 : decode b_Rs_init 6 = .ok (.putfield 7, 3) := by decide +kernel
theorem d_Rs_init_9 : decode b_Rs_init 9 = .ok (.aload_n 0, 1) := by decide +kernel
theorem d_Rs_init_10 : decode b_Rs_init 10 = .ok (.new 13, 3) := by decide +kernel
theorem d_Rs_init_13 : decode b_Rs_init 13 = .ok (.dup, 1) := by decide +kernel
theorem d_Rs_init_14 : decode b_Rs_init 14 = .ok (.invokespecial 15, 3) := by decide +kernel
theorem d_Rs_init_17 : decode b_Rs_init 17 = .ok (.putfield 16, 3) := by decide +kernel
theorem d_Rs_init_20 : decode b_Rs_init 20 = .ok (.new 20, 3) := by decide +kernel
theorem d_Rs_init_23 : decode b_Rs_init 23 = .ok (.dup, 1) := by decide +kernel
theorem d_Rs_init_24 : decode b_Rs_init 24 = .ok (.iconst 0, 1) := by decide +kernel
theorem d_Rs_init_25 : decode b_Rs_init 25 = .ok (.invokespecial 22, 3) := by decide +kernel
theorem d_Rs_init_28 : decode b_Rs_init 28 = .ok (.astore_n 2, 1) := by decide +kernel
theorem d_Rs_init_29 : decode b_Rs_init 29 = .ok (.aload_n 0, 1) := by decide +kernel
theorem d_Rs_init_30 : decode b_Rs_init 30 = .ok (.new 25, 3) := by decide +kernel
theorem d_Rs_init_33 : decode b_Rs_init 33 = .ok (.dup, 1) := by decide +kernel
theorem d_Rs_init_34 : decode b_Rs_init 34 = .ok (.iload_n 1, 1) := by decide +kernel
theorem d_Rs_init_35 : decode b_Rs_init 35 = .ok (.iconst 0, 1) := by decide +kernel
theorem d_Rs_init_36 : decode b_Rs_init 36 = .ok (.aload_n 2, 1) := by decide +kernel
theorem d_Rs_init_37 : decode b_Rs_init 37 = .ok (.aload_n 2, 1) := by decide +kernel
theorem d_Rs_init_38 : decode b_Rs_init 38 = .ok (.aload_n 2, 1) := by decide +kernel
theorem d_Rs_init_39 : decode b_Rs_init 39 = .ok (.invokespecial 27, 3) := by decide +kernel
theorem d_Rs_init_42 : decode b_Rs_init 42 = .ok (.putfield 30, 3) := by decide +kernel
theorem d_Rs_init_45 : decode b_Rs_init 45 = .ok (.return_, 1) := by decide +kernel
abbrev b_Rs_atFront : ByteArray := prog_8_method_2_code
def y_Rs_atFront : MethodName := ⟨"SpellDesk$RuleList", "atFront", "()Z"⟩
set_option maxRecDepth 20000 in
theorem Y_Rs_atFront : gh_Y y_Rs_atFront b_Rs_atFront 1 (some .boolean) 0 := ⟨gt_in (i := 835) rfl rfl, gt_in (i := 10) (by decide +kernel) rfl, by decide +kernel, by decide +kernel, by decide +kernel⟩
theorem V_Rs_atFront : Cond.instanceMethod y_Rs_atFront ∈ gTbl ∧ Cond.selects y_Rs_atFront.cls y_Rs_atFront y_Rs_atFront ∈ gTbl := ⟨(gt_in (i := 833) (by decide +kernel) rfl), (gt_in (i := 834) (by decide +kernel) rfl)⟩
theorem d_Rs_atFront_0 : decode b_Rs_atFront 0 = .ok (.aload_n 0, 1) := by decide +kernel
theorem d_Rs_atFront_1 : decode b_Rs_atFront 1 = .ok (.getfield 7, 3) := by decide +kernel
theorem d_Rs_atFront_4 : decode b_Rs_atFront 4 = .ok (.ireturn, 1) := by decide +kernel
abbrev b_Rs_count : ByteArray := prog_8_method_3_code
def y_Rs_count : MethodName := ⟨"SpellDesk$RuleList", "count", "()I"⟩
set_option maxRecDepth 20000 in
theorem Y_Rs_count : gh_Y y_Rs_count b_Rs_count 1 (some .int) 0 := ⟨gt_in (i := 860) rfl rfl, gt_in (i := 10) (by decide +kernel) rfl, by decide +kernel, by decide +kernel, by decide +kernel⟩
theorem V_Rs_count : Cond.instanceMethod y_Rs_count ∈ gTbl ∧ Cond.selects y_Rs_count.cls y_Rs_count y_Rs_count ∈ gTbl := ⟨(gt_in (i := 858) (by decide +kernel) rfl), (gt_in (i := 859) (by decide +kernel) rfl)⟩
theorem d_Rs_count_0 : decode b_Rs_count 0 = .ok (.aload_n 0, 1) := by decide +kernel
theorem d_Rs_count_1 : decode b_Rs_count 1 = .ok (.getfield 16, 3) := by decide +kernel
theorem d_Rs_count_4 : decode b_Rs_count 4 = .ok (.invokevirtual 34, 3) := by decide +kernel
theorem d_Rs_count_7 : decode b_Rs_count 7 = .ok (.ireturn, 1) := by decide +kernel
abbrev b_Rs_append : ByteArray := prog_8_method_5_code
def y_Rs_append : MethodName := ⟨"SpellDesk$RuleList", "append", "(LSpellDesk$Rule;)V"⟩
set_option maxRecDepth 20000 in
theorem Y_Rs_append : gh_Y y_Rs_append b_Rs_append 2 none 1 := ⟨gt_in (i := 865) rfl rfl, gt_in (i := 10) (by decide +kernel) rfl, by decide +kernel, by decide +kernel, by decide +kernel⟩
theorem V_Rs_append : Cond.instanceMethod y_Rs_append ∈ gTbl ∧ Cond.selects y_Rs_append.cls y_Rs_append y_Rs_append ∈ gTbl := ⟨(gt_in (i := 863) (by decide +kernel) rfl), (gt_in (i := 864) (by decide +kernel) rfl)⟩
theorem d_Rs_append_0 : decode b_Rs_append 0 = .ok (.aload_n 0, 1) := by decide +kernel
theorem d_Rs_append_1 : decode b_Rs_append 1 = .ok (.getfield 16, 3) := by decide +kernel
theorem d_Rs_append_4 : decode b_Rs_append 4 = .ok (.aload_n 1, 1) := by decide +kernel
theorem d_Rs_append_5 : decode b_Rs_append 5 = .ok (.invokevirtual 41, 3) := by decide +kernel
theorem d_Rs_append_8 : decode b_Rs_append 8 = .ok (.pop, 1) := by decide +kernel
theorem d_Rs_append_9 : decode b_Rs_append 9 = .ok (.return_, 1) := by decide +kernel
abbrev b_Rs_at : ByteArray := prog_8_method_6_code
def y_Rs_at : MethodName := ⟨"SpellDesk$RuleList", "at", "(I)LSpellDesk$Rule;"⟩
set_option maxRecDepth 20000 in
theorem Y_Rs_at : gh_Y y_Rs_at b_Rs_at 2 (some (.object "SpellDesk$Rule")) 1 := ⟨gt_in (i := 915) rfl rfl, gt_in (i := 10) (by decide +kernel) rfl, by decide +kernel, by decide +kernel, by decide +kernel⟩
theorem V_Rs_at : Cond.instanceMethod y_Rs_at ∈ gTbl ∧ Cond.selects y_Rs_at.cls y_Rs_at y_Rs_at ∈ gTbl := ⟨(gt_in (i := 913) (by decide +kernel) rfl), (gt_in (i := 914) (by decide +kernel) rfl)⟩
theorem d_Rs_at_0 : decode b_Rs_at 0 = .ok (.iload_n 1, 1) := by decide +kernel
theorem d_Rs_at_1 : decode b_Rs_at 1 = .ok (.iconst 1, 1) := by decide +kernel
theorem d_Rs_at_2 : decode b_Rs_at 2 = .ok (.if_icmp .lt 30, 3) := by decide +kernel
theorem d_Rs_at_5 : decode b_Rs_at 5 = .ok (.iload_n 1, 1) := by decide +kernel
theorem d_Rs_at_6 : decode b_Rs_at 6 = .ok (.aload_n 0, 1) := by decide +kernel
theorem d_Rs_at_7 : decode b_Rs_at 7 = .ok (.getfield 16, 3) := by decide +kernel
theorem d_Rs_at_10 : decode b_Rs_at 10 = .ok (.invokevirtual 34, 3) := by decide +kernel
theorem d_Rs_at_13 : decode b_Rs_at 13 = .ok (.if_icmp .gt 19, 3) := by decide +kernel
theorem d_Rs_at_16 : decode b_Rs_at 16 = .ok (.aload_n 0, 1) := by decide +kernel
theorem d_Rs_at_17 : decode b_Rs_at 17 = .ok (.getfield 16, 3) := by decide +kernel
theorem d_Rs_at_20 : decode b_Rs_at 20 = .ok (.iload_n 1, 1) := by decide +kernel
theorem d_Rs_at_21 : decode b_Rs_at 21 = .ok (.iconst 1, 1) := by decide +kernel
theorem d_Rs_at_22 : decode b_Rs_at 22 = .ok (.isub, 1) := by decide +kernel
theorem d_Rs_at_23 : decode b_Rs_at 23 = .ok (.invokevirtual 45, 3) := by decide +kernel
theorem d_Rs_at_26 : decode b_Rs_at 26 = .ok (.checkcast 25, 3) := by decide +kernel
theorem d_Rs_at_29 : decode b_Rs_at 29 = .ok (.goto 7, 3) := by decide +kernel
theorem d_Rs_at_32 : decode b_Rs_at 32 = .ok (.aload_n 0, 1) := by decide +kernel
theorem d_Rs_at_33 : decode b_Rs_at 33 = .ok (.getfield 30, 3) := by decide +kernel
theorem d_Rs_at_36 : decode b_Rs_at 36 = .ok (.areturn, 1) := by decide +kernel
abbrev b_Rs_clear : ByteArray := prog_8_method_4_code
def y_Rs_clear : MethodName := ⟨"SpellDesk$RuleList", "clear", "()V"⟩
set_option maxRecDepth 20000 in
theorem Y_Rs_clear : gh_Y y_Rs_clear b_Rs_clear 1 none 0 := ⟨gt_in (i := 1054) rfl rfl, gt_in (i := 10) (by decide +kernel) rfl, by decide +kernel, by decide +kernel, by decide +kernel⟩
theorem V_Rs_clear : Cond.instanceMethod y_Rs_clear ∈ gTbl ∧ Cond.selects y_Rs_clear.cls y_Rs_clear y_Rs_clear ∈ gTbl := ⟨(gt_in (i := 1052) (by decide +kernel) rfl), (gt_in (i := 1053) (by decide +kernel) rfl)⟩
theorem d_Rs_clear_0 : decode b_Rs_clear 0 = .ok (.aload_n 0, 1) := by decide +kernel
theorem d_Rs_clear_1 : decode b_Rs_clear 1 = .ok (.getfield 16, 3) := by decide +kernel
theorem d_Rs_clear_4 : decode b_Rs_clear 4 = .ok (.invokevirtual 38, 3) := by decide +kernel
theorem d_Rs_clear_7 : decode b_Rs_clear 7 = .ok (.return_, 1) := by decide +kernel
theorem kf_Rs_7 : Cond.fieldLink "SpellDesk$RuleList" 7 "SpellDesk$RuleList" "atFront" "Z" ∈ gTbl := (gt_in (i := 173) (by decide +kernel) rfl)
theorem kf_Rs_16 : Cond.fieldLink "SpellDesk$RuleList" 16 "SpellDesk$RuleList" "list" "Ljava/util/ArrayList;" ∈ gTbl := (gt_in (i := 174) (by decide +kernel) rfl)
theorem kf_Rs_30 : Cond.fieldLink "SpellDesk$RuleList" 30 "SpellDesk$RuleList" "none" "LSpellDesk$Rule;" ∈ gTbl := (gt_in (i := 175) (by decide +kernel) rfl)
theorem kc_Rs_13 : Cond.classLink "SpellDesk$RuleList" 13 "java/util/ArrayList" ∈ gTbl := (gt_in (i := 145) (by decide +kernel) rfl)
theorem kc_Rs_20 : Cond.classLink "SpellDesk$RuleList" 20 "SpellDesk$Letters" ∈ gTbl := (gt_in (i := 147) (by decide +kernel) rfl)
theorem kc_Rs_25 : Cond.classLink "SpellDesk$RuleList" 25 "SpellDesk$Rule" ∈ gTbl := (gt_in (i := 149) (by decide +kernel) rfl)
theorem km_Rs_1 : Cond.methodLink "SpellDesk$RuleList" 1 ⟨"java/lang/Object", "<init>", "()V"⟩ ∈ gTbl := (gt_in (i := 144) (by decide +kernel) rfl)
theorem km_Rs_15 : Cond.methodLink "SpellDesk$RuleList" 15 ⟨"java/util/ArrayList", "<init>", "()V"⟩ ∈ gTbl := (gt_in (i := 146) (by decide +kernel) rfl)
theorem km_Rs_22 : Cond.methodLink "SpellDesk$RuleList" 22 ⟨"SpellDesk$Letters", "<init>", "(I)V"⟩ ∈ gTbl := (gt_in (i := 148) (by decide +kernel) rfl)
theorem km_Rs_27 : Cond.methodLink "SpellDesk$RuleList" 27 ⟨"SpellDesk$Rule", "<init>", "(ZILSpellDesk$Letters;LSpellDesk$Letters;LSpellDesk$Letters;)V"⟩ ∈ gTbl := (gt_in (i := 151) (by decide +kernel) rfl)
theorem km_Rs_34 : Cond.methodLink "SpellDesk$RuleList" 34 ⟨"java/util/ArrayList", "size", "()I"⟩ ∈ gTbl := (gt_in (i := 861) (by decide +kernel) rfl)
theorem km_Rs_38 : Cond.methodLink "SpellDesk$RuleList" 38 ⟨"java/util/ArrayList", "clear", "()V"⟩ ∈ gTbl := (gt_in (i := 1055) (by decide +kernel) rfl)
theorem km_Rs_41 : Cond.methodLink "SpellDesk$RuleList" 41 ⟨"java/util/ArrayList", "add", "(Ljava/lang/Object;)Z"⟩ ∈ gTbl := (gt_in (i := 866) (by decide +kernel) rfl)
theorem km_Rs_45 : Cond.methodLink "SpellDesk$RuleList" 45 ⟨"java/util/ArrayList", "get", "(I)Ljava/lang/Object;"⟩ ∈ gTbl := (gt_in (i := 916) (by decide +kernel) rfl)
end
section
section GHI
variable {l : Launch} {G : GG} {R : Room} {X : GX} {cc : ByteArray} {nL : Nat} {own : String} {g : GH} {k n pc : Nat} {lv : List (Option Value)} {st : List Value}
theorem i0_eq {x : Int32} {c : Int} (hx : x.toInt = c) : x = 0 ↔ c = 0 := by
  rw [← hx]
  constructor
  · intro h; rw [h]; rfl
  · intro h; exact Int32.toInt_inj.mp (h.trans rfl)
theorem i0_lt {x : Int32} {c : Int} (hx : x.toInt = c) : x < 0 ↔ c < 0 := by
  rw [← hx, Int32.lt_iff_toInt_lt]
  exact Iff.rfl
theorem gh_if_neI {x : Int32} {c : Int} {off : Int} {tgt : Nat} (hK : gh_K G X cc nL own) (hd : decode cc pc = .ok (.ifCond .ne off, 3)) (ht : (pc : Int) + off = (tgt : Int)) (hx : x.toInt = c) (kt : c ≠ 0 → gh_W l G R X g k n lv tgt st) (kf : c = 0 → gh_W l G R X g k n lv (pc + 3) st) : gh_W l G R X g k n lv pc (.int x :: st) :=
  gh_if_ne hK hd ht (fun z => kt fun q => z ((i0_eq hx).mpr q)) (fun z => kf ((i0_eq hx).mp z))
theorem gh_if_eqI {x : Int32} {c : Int} {off : Int} {tgt : Nat} (hK : gh_K G X cc nL own) (hd : decode cc pc = .ok (.ifCond .eq off, 3)) (ht : (pc : Int) + off = (tgt : Int)) (hx : x.toInt = c) (kt : c = 0 → gh_W l G R X g k n lv tgt st) (kf : c ≠ 0 → gh_W l G R X g k n lv (pc + 3) st) : gh_W l G R X g k n lv pc (.int x :: st) :=
  gh_if_eq hK hd ht (fun z => kt ((i0_eq hx).mp z)) (fun z => kf fun q => z ((i0_eq hx).mpr q))
theorem gh_if_geI {x : Int32} {c : Int} {off : Int} {tgt : Nat} (hK : gh_K G X cc nL own) (hd : decode cc pc = .ok (.ifCond .ge off, 3)) (ht : (pc : Int) + off = (tgt : Int)) (hx : x.toInt = c) (kt : 0 ≤ c → gh_W l G R X g k n lv tgt st) (kf : c < 0 → gh_W l G R X g k n lv (pc + 3) st) : gh_W l G R X g k n lv pc (.int x :: st) :=
  gh_if_ge hK hd ht (fun z => kt (by
    have h1 : ¬ x < 0 := Int32.not_lt.mpr z
    have h2 : ¬ c < 0 := fun q => h1 ((i0_lt hx).mpr q)
    omega)) (fun z => kf ((i0_lt hx).mp (Int32.not_le.mp z)))
end GHI
/-! ENTRIES AND RULES -/
def En (G : GG) (g : GH) (ea : Nat) (w : List Nat) (fl : Nat) : Prop := ∃ wa wb, g ea = some (50, .inr (2, [.ref wa, .int (nI fl)])) ∧ Lt G g wa 51 wb 52 w.length w
theorem En.M {G : GG} {g g' : GH} {ea fl : Nat} {w : List Nat} {S : List Nat} (h : En G g ea w fl) (hM : gh_M S g g') (h1 : 50 ∉ S) (h2 : 51 ∉ S) (h3 : 52 ∉ S) : En G g' ea w fl := by
  obtain ⟨wa, wb, k1, k2⟩ := h
  exact ⟨wa, wb, hM ea 50 _ k1 h1, k2.M hM h2 h3⟩
/-- a rule at ra (tag rt), its letters under the tags lt, ut -/
def Ru (G : GG) (g : GH) (ra rt lt ut : Nat) (fr : Bool) (fl : Nat) (S A C : List Nat) : Prop := ∃ sa sb aa ab ca cb, g ra = some (rt, .inr (6, [.int (nI (bn fr)), .int (nI fl), .ref sa, .ref aa, .ref ca])) ∧ Lt G g sa lt sb ut S.length S ∧ Lt G g aa lt ab ut A.length A ∧ Lt G g ca lt cb ut C.length C
theorem Ru.M {G : GG} {g g' : GH} {ra rt lt ut fl : Nat} {fr : Bool} {S A C : List Nat} {Z : List Nat} (h : Ru G g ra rt lt ut fr fl S A C) (hM : gh_M Z g g') (h1 : rt ∉ Z) (h2 : lt ∉ Z) (h3 : ut ∉ Z) : Ru G g' ra rt lt ut fr fl S A C := by
  obtain ⟨sa, sb, aa, ab, ca, cb, k1, k2, k3, k4⟩ := h
  exact ⟨sa, sb, aa, ab, ca, cb, hM ra rt _ k1 h1, k2.M hM h2 h3, k3.M hM h2 h3, k4.M hM h2 h3⟩
/-- a pattern stands at the front, or at the end, of a word -/
def stP (fr : Bool) (pat w : List Nat) : Prop := pat.length ≤ w.length ∧ ∀ i, i < pat.length → pat.getD i 0 = 46 ∨ pat.getD i 0 = w.getD ((if fr = true then 0 else w.length - pat.length) + i) 0
def stO (fr : Bool) (pat w : List Nat) : Bool := decide (pat.length ≤ w.length) && (List.range pat.length).all fun i => decide (pat.getD i 0 = 46) || decide (pat.getD i 0 = w.getD ((if fr = true then 0 else w.length - pat.length) + i) 0)
theorem stO_iff {fr : Bool} {pat w : List Nat} : stO fr pat w = true ↔ stP fr pat w := by
  unfold stO stP
  rw [Bool.and_eq_true, List.all_eq_true, decide_eq_true_iff]
  constructor
  · rintro ⟨h1, h2⟩
    refine ⟨h1, fun i hi => ?_⟩
    have := h2 i (List.mem_range.mpr hi)
    simpa using this
  · rintro ⟨h1, h2⟩
    refine ⟨h1, fun i hi => ?_⟩
    have := h2 i (List.mem_range.mp hi)
    simpa using this
theorem stO_f {fr : Bool} {pat w : List Nat} (h : ¬ stP fr pat w) : stO fr pat w = false := Bool.eq_false_iff.mpr fun q => h (stO_iff.mp q)
/-- a rule goes with an entry -/
def goO (fr : Bool) (rf : Nat) (S C : List Nat) (w : List Nat) (ef : Nat) : Bool := decide (ef &&& rf = rf) && (stO fr S w && stO fr C w)
/-- an entry begins with a word -/
def bgO (w p : List Nat) : Bool := decide (p.length ≤ w.length ∧ w.take p.length = p)
set_option maxRecDepth 20000 in
set_option maxHeartbeats 4000000 in
theorem c_En_beginsWith (l : Launch) (G : GG) {g : GH} {ea fl ra rt rb ru rcap fr len : Nat} {w ys : List Nat} (h : En G g ea w fl) (hr : Lt G g ra rt rb ru rcap ys) (hf : fr + len ≤ ys.length) : gMet l G y_En_beginsWith b_En_beginsWith 4 (some .boolean) (rmk 1 0 0 28) [.ref ea, .ref ra, .int (nI fr), .int (nI len)] g (fun v g' => v = some (.int (nI (bn (bgO w ((ys.drop fr).take len))))) ∧ g' = g) := by
  refine gMet.of [some (.ref ea), some (.ref ra), some (.int (nI fr)), some (.int (nI len))] (by decide +kernel) rfl (Nat.le_of_ble_eq_true rfl) rfl (fun X hK hI hE => ?_)
  obtain ⟨wa, wb, k1, k2⟩ := h
  obtain ⟨b1, b2⟩ := k2.len
  obtain ⟨b3, b4⟩ := hr.len
  have hsl := slice_len hf
  refine gh_iload_n hK d_En_beginsWith_0 rfl ?_
  refine gh_aload_n hK d_En_beginsWith_1 rfl ?_
  refine gh_get hK d_En_beginsWith_2 in_En rfl k1 0 (by decide) kf_En_7 rfl rfl ?_
  refine gh_callV (rest := [.int (nI len)]) [] hK (c_Lt_count l G k2) Y_Lt_count V_Lt_count km_En_17 k2.ob rfl rfl d_En_beginsWith_5 rfl rfl (Nat.le_of_ble_eq_true rfl) ⟨(Nat.le_of_ble_eq_true rfl), (Nat.le_of_ble_eq_true rfl)⟩ ⟨(Nat.le_of_ble_eq_true rfl), (Nat.le_of_ble_eq_true rfl)⟩ (fun v g' hp => ?_)
  rw [hp.1, hp.2]
  show gh_W l G _ X g _ _ [some (.ref ea), some (.ref ra), some (.int (nI fr)), some (.int (nI len))] 8 [.int (nI w.length), .int (nI len)]
  refine gh_icmp_gtN hK d_En_beginsWith_8 (tgt := 30) (by decide) (by omega) (by omega) (fun z => ?_) (fun z => ?_)
  · refine gh_iconst (v := nI 0) hK d_En_beginsWith_30 (by decide) ?_
    exact gh_zret rfl hK hE d_En_beginsWith_31 (Nat.le_of_ble_eq_true rfl) (Nat.le_of_ble_eq_true rfl) ⟨by rw [show bgO w ((ys.drop fr).take len) = false from decide_eq_false (by rw [hsl]; omega)]; rfl, rfl⟩
  · refine gh_aload_n hK d_En_beginsWith_11 rfl ?_
    refine gh_get hK d_En_beginsWith_12 in_En rfl k1 0 (by decide) kf_En_7 rfl rfl ?_
    refine gh_iconst (v := nI 0) hK d_En_beginsWith_15 (by decide) ?_
    refine gh_iload_n hK d_En_beginsWith_16 rfl ?_
    refine gh_aload_n hK d_En_beginsWith_17 rfl ?_
    refine gh_iload_n hK d_En_beginsWith_18 rfl ?_
    refine gh_iload_n hK d_En_beginsWith_19 rfl ?_
    refine gh_callV (rest := []) [.int (nI 0), .int (nI len), .ref ra, .int (nI fr), .int (nI len)] hK (c_Lt_compare l G k2 hr (fr := 0) (len := len) (of := fr) (ol := len) (by omega) hf) Y_Lt_compare V_Lt_compare km_En_23 k2.ob rfl rfl d_En_beginsWith_20 rfl rfl (Nat.le_of_ble_eq_true rfl) ⟨(Nat.le_of_ble_eq_true rfl), (Nat.le_of_ble_eq_true rfl)⟩ ⟨(Nat.le_of_ble_eq_true rfl), (Nat.le_of_ble_eq_true rfl)⟩ (fun v g' hp => ?_)
    obtain ⟨r, rfl, hr1, hg⟩ := hp
    rw [hg]
    show gh_W l G _ X g _ _ [some (.ref ea), some (.ref ra), some (.int (nI fr)), some (.int (nI len))] 23 [.int r]
    rw [List.drop_zero] at hr1
    refine gh_if_neI hK d_En_beginsWith_23 (tgt := 30) (by decide) hr1 (fun z2 => ?_) (fun z2 => ?_)
    · refine gh_iconst (v := nI 0) hK d_En_beginsWith_30 (by decide) ?_
      exact gh_zret rfl hK hE d_En_beginsWith_31 (Nat.le_of_ble_eq_true rfl) (Nat.le_of_ble_eq_true rfl) ⟨by rw [show bgO w ((ys.drop fr).take len) = false from decide_eq_false (by rw [hsl]; exact fun q => z2 ((cmpL_zero _ _).mpr q.2))]; rfl, rfl⟩
    · refine gh_iconst (v := nI 1) hK d_En_beginsWith_26 (by decide) ?_
      refine gh_goto (tgt := 31) hK d_En_beginsWith_27 (by decide) ?_
      exact gh_zret rfl hK hE d_En_beginsWith_31 (Nat.le_of_ble_eq_true rfl) (Nat.le_of_ble_eq_true rfl) ⟨by rw [show bgO w ((ys.drop fr).take len) = true from decide_eq_true (by rw [hsl]; exact ⟨z, (cmpL_zero _ _).mp z2⟩)]; rfl, rfl⟩
set_option maxRecDepth 20000 in
set_option maxHeartbeats 4000000 in
theorem c_Ru_stands (l : Launch) (G : GG) {g : GH} {ra rt : Nat} {fr : Bool} {V2 V3 V4 V5 : Value} {pa pt pb pu pcap oa ot ob ou ocap fo len : Nat} {pat ys : List Nat} (h : g ra = some (rt, .inr (6, [.int (nI (bn fr)), V2, V3, V4, V5]))) (hp0 : Lt G g pa pt pb pu pcap pat) (ho : Lt G g oa ot ob ou ocap ys) (hf : fo + len ≤ ys.length) : gMet l G y_Ru_stands b_Ru_stands 9 (some .boolean) (rmk 1 0 0 21) [.ref ra, .ref pa, .ref oa, .int (nI fo), .int (nI len)] g (fun v g' => v = some (.int (nI (bn (stO fr pat ((ys.drop fo).take len))))) ∧ g' = g) := by
  refine gMet.of [some (.ref ra), some (.ref pa), some (.ref oa), some (.int (nI fo)), some (.int (nI len)), none, none, none, none] (by decide +kernel) rfl (Nat.le_of_ble_eq_true rfl) rfl (fun X hK hI hE => ?_)
  obtain ⟨b1, b2⟩ := hp0.len
  obtain ⟨b3, b4⟩ := ho.len
  have hsl := slice_len hf
  have loop : ∀ (m i st0 : Nat) (o8 : Option Value), i + m = pat.length → pat.length ≤ len → st0 = fo + (if fr = true then 0 else len - pat.length) → (∀ j, j < i → pat.getD j 0 = 46 ∨ pat.getD j 0 = ys.getD (st0 + j) 0) → gh_W l G (rmk 1 0 0 21) X g 0 0 [some (.ref ra), some (.ref pa), some (.ref oa), some (.int (nI fo)), some (.int (nI len)), some (.int (nI pat.length)), some (.int (nI st0)), some (.int (nI i)), o8] 38 [] := by
    have key : ∀ st0, pat.length ≤ len → st0 = fo + (if fr = true then 0 else len - pat.length) → ∀ j, j < pat.length → (((ys.drop fo).take len).getD ((if fr = true then 0 else ((ys.drop fo).take len).length - pat.length) + j) 0 = ys.getD (st0 + j) 0 ∧ st0 + j < ys.length) := by
      intro st0 hl he j hj
      rw [hsl]
      cases fr with
      | true =>
        have he : st0 = fo := he
        have e0 : (if true = true then 0 else len - pat.length) + j = j := Nat.zero_add j
        rw [e0, slice_getD hf (by omega), he]
        exact ⟨rfl, by omega⟩
      | false =>
        have he : st0 = fo + (len - pat.length) := he
        have e0 : (if false = true then 0 else len - pat.length) + j = (len - pat.length) + j := rfl
        rw [e0, slice_getD hf (by omega), he, Nat.add_assoc]
        exact ⟨rfl, by omega⟩
    intro m
    induction m with
    | zero =>
      intro i st0 o8 hi hl he hall
      refine gh_iload hK d_Ru_stands_38 rfl ?_
      refine gh_iload hK d_Ru_stands_40 rfl ?_
      refine gh_icmp_geN hK d_Ru_stands_42 (tgt := 82) (by decide) (by omega) (by omega) (fun z => ?_) (fun z => absurd z (by omega))
      refine gh_iconst (v := nI 1) hK d_Ru_stands_82 (by decide) ?_
      refine gh_zret rfl hK hE d_Ru_stands_83 (Nat.le_of_ble_eq_true rfl) (Nat.le_of_ble_eq_true rfl) ⟨?_, rfl⟩
      rw [stO_iff.mpr ⟨by rw [hsl]; exact hl, fun j hj => by rw [(key st0 hl he j hj).1]; exact hall j (by omega)⟩]
      rfl
    | succ m ih =>
      intro i st0 o8 hi hl he hall
      have hk := key st0 hl he i (by omega)
      have hc1 := hp0.getD i
      have hc2 := ho.getD (st0 + i)
      refine gh_iload hK d_Ru_stands_38 rfl ?_
      refine gh_iload hK d_Ru_stands_40 rfl ?_
      refine gh_icmp_geN hK d_Ru_stands_42 (tgt := 82) (by decide) (by omega) (by omega) (fun z => absurd z (by omega)) (fun z => ?_)
      refine gh_aload_n hK d_Ru_stands_45 rfl ?_
      refine gh_iload hK d_Ru_stands_46 rfl ?_
      refine gh_callV (rest := []) [.int (nI i)] hK (c_Lt_at l G hp0 (j := i) (by omega)) Y_Lt_at V_Lt_at km_Ru_47 hp0.ob rfl rfl d_Ru_stands_48 rfl rfl (Nat.le_of_ble_eq_true rfl) ⟨(Nat.le_of_ble_eq_true rfl), (Nat.le_of_ble_eq_true rfl)⟩ ⟨(Nat.le_of_ble_eq_true rfl), (Nat.le_of_ble_eq_true rfl)⟩ (fun v g' hp => ?_)
      rw [hp.1, hp.2]
      show gh_W l G _ X g _ _ [some (.ref ra), some (.ref pa), some (.ref oa), some (.int (nI fo)), some (.int (nI len)), some (.int (nI pat.length)), some (.int (nI st0)), some (.int (nI i)), o8] 51 [.int (nI (pat.getD i 0))]
      refine gh_istore (lv' := [some (.ref ra), some (.ref pa), some (.ref oa), some (.int (nI fo)), some (.int (nI len)), some (.int (nI pat.length)), some (.int (nI st0)), some (.int (nI i)), some (.int (nI (pat.getD i 0)))]) hK d_Ru_stands_51 (Nat.le_of_ble_eq_true rfl) rfl ?_
      refine gh_iload hK d_Ru_stands_53 rfl ?_
      refine gh_bipush (v := nI 46) hK d_Ru_stands_55 (by decide) ?_
      refine gh_icmp_eqN hK d_Ru_stands_57 (tgt := 76) (by decide) (by omega) (by decide) (fun z2 => ?_) (fun z2 => ?_)
      · refine gh_incN (lv' := [some (.ref ra), some (.ref pa), some (.ref oa), some (.int (nI fo)), some (.int (nI len)), some (.int (nI pat.length)), some (.int (nI st0)), some (.int (nI (i + 1))), some (.int (nI (pat.getD i 0)))]) hK d_Ru_stands_76 rfl rfl ?_
        refine gh_goto (tgt := 38) hK d_Ru_stands_79 (by decide) ?_
        exact ih (i + 1) st0 _ (by omega) hl he (fun j hj => by
          by_cases e : j = i
          · rw [e]; exact Or.inl z2
          · exact hall j (by omega))
      · refine gh_iload hK d_Ru_stands_60 rfl ?_
        refine gh_aload_n hK d_Ru_stands_62 rfl ?_
        refine gh_iload hK d_Ru_stands_63 rfl ?_
        refine gh_iload hK d_Ru_stands_65 rfl ?_
        refine gh_addN hK d_Ru_stands_67 ?_
        refine gh_callV (rest := [.int (nI (pat.getD i 0))]) [.int (nI (st0 + i))] hK (c_Lt_at l G ho (j := st0 + i) (by omega)) Y_Lt_at V_Lt_at km_Ru_47 ho.ob rfl rfl d_Ru_stands_68 rfl rfl (Nat.le_of_ble_eq_true rfl) ⟨(Nat.le_of_ble_eq_true rfl), (Nat.le_of_ble_eq_true rfl)⟩ ⟨(Nat.le_of_ble_eq_true rfl), (Nat.le_of_ble_eq_true rfl)⟩ (fun v g' hp => ?_)
        rw [hp.1, hp.2]
        show gh_W l G _ X g _ _ [some (.ref ra), some (.ref pa), some (.ref oa), some (.int (nI fo)), some (.int (nI len)), some (.int (nI pat.length)), some (.int (nI st0)), some (.int (nI i)), some (.int (nI (pat.getD i 0)))] 71 [.int (nI (ys.getD (st0 + i) 0)), .int (nI (pat.getD i 0))]
        refine gh_icmp_eqN hK d_Ru_stands_71 (tgt := 76) (by decide) (by omega) (by omega) (fun z3 => ?_) (fun z3 => ?_)
        · refine gh_incN (lv' := [some (.ref ra), some (.ref pa), some (.ref oa), some (.int (nI fo)), some (.int (nI len)), some (.int (nI pat.length)), some (.int (nI st0)), some (.int (nI (i + 1))), some (.int (nI (pat.getD i 0)))]) hK d_Ru_stands_76 rfl rfl ?_
          refine gh_goto (tgt := 38) hK d_Ru_stands_79 (by decide) ?_
          exact ih (i + 1) st0 _ (by omega) hl he (fun j hj => by
            by_cases e : j = i
            · rw [e]; exact Or.inr z3
            · exact hall j (by omega))
        · refine gh_iconst (v := nI 0) hK d_Ru_stands_74 (by decide) ?_
          refine gh_zret rfl hK hE d_Ru_stands_75 (Nat.le_of_ble_eq_true rfl) (Nat.le_of_ble_eq_true rfl) ⟨?_, rfl⟩
          rw [stO_f fun q => by
            rcases q.2 i (by omega) with q | q
            · exact z2 q
            · rw [hk.1] at q; exact z3 q]
          rfl
  refine gh_aload_n hK d_Ru_stands_0 rfl ?_
  refine gh_callV (rest := []) [] hK (c_Lt_count l G hp0) Y_Lt_count V_Lt_count km_Ru_34 hp0.ob rfl rfl d_Ru_stands_1 rfl rfl (Nat.le_of_ble_eq_true rfl) ⟨(Nat.le_of_ble_eq_true rfl), (Nat.le_of_ble_eq_true rfl)⟩ ⟨(Nat.le_of_ble_eq_true rfl), (Nat.le_of_ble_eq_true rfl)⟩ (fun v g' hp => ?_)
  rw [hp.1, hp.2]
  show gh_W l G _ X g _ _ [some (.ref ra), some (.ref pa), some (.ref oa), some (.int (nI fo)), some (.int (nI len)), none, none, none, none] 4 [.int (nI pat.length)]
  refine gh_istore (lv' := [some (.ref ra), some (.ref pa), some (.ref oa), some (.int (nI fo)), some (.int (nI len)), some (.int (nI pat.length)), none, none, none]) hK d_Ru_stands_4 (Nat.le_of_ble_eq_true rfl) rfl ?_
  refine gh_iload hK d_Ru_stands_6 rfl ?_
  refine gh_iload hK d_Ru_stands_8 rfl ?_
  refine gh_icmp_leN hK d_Ru_stands_10 (tgt := 15) (by decide) (by omega) (by omega) (fun z => ?_) (fun z => ?_)
  · refine gh_aload_n hK d_Ru_stands_15 rfl ?_
    refine gh_get hK d_Ru_stands_16 in_Ru rfl h 0 (by decide) kf_Ru_9 rfl rfl ?_
    refine gh_if_eqB hK d_Ru_stands_19 (tgt := 26) (by decide) (fun z2 => ?_) (fun z2 => ?_)
    · refine gh_iload_n hK d_Ru_stands_26 rfl ?_
      refine gh_iload hK d_Ru_stands_27 rfl ?_
      refine gh_addN hK d_Ru_stands_29 ?_
      refine gh_iload hK d_Ru_stands_30 rfl ?_
      refine gh_subN hK d_Ru_stands_32 (by omega) ?_
      refine gh_istore (lv' := [some (.ref ra), some (.ref pa), some (.ref oa), some (.int (nI fo)), some (.int (nI len)), some (.int (nI pat.length)), some (.int (nI ((fo + len) - pat.length))), none, none]) hK d_Ru_stands_33 (Nat.le_of_ble_eq_true rfl) rfl ?_
      refine gh_iconst (v := nI 0) hK d_Ru_stands_35 (by decide) ?_
      refine gh_istore (lv' := [some (.ref ra), some (.ref pa), some (.ref oa), some (.int (nI fo)), some (.int (nI len)), some (.int (nI pat.length)), some (.int (nI ((fo + len) - pat.length))), some (.int (nI 0)), none]) hK d_Ru_stands_36 (Nat.le_of_ble_eq_true rfl) rfl ?_
      exact loop pat.length 0 _ none (by omega) z (by rw [z2]; show fo + len - pat.length = fo + (len - pat.length); omega) (fun j hj => absurd hj (Nat.not_lt_zero j))
    · refine gh_iload_n hK d_Ru_stands_22 rfl ?_
      refine gh_goto (tgt := 33) hK d_Ru_stands_23 (by decide) ?_
      refine gh_istore (lv' := [some (.ref ra), some (.ref pa), some (.ref oa), some (.int (nI fo)), some (.int (nI len)), some (.int (nI pat.length)), some (.int (nI fo)), none, none]) hK d_Ru_stands_33 (Nat.le_of_ble_eq_true rfl) rfl ?_
      refine gh_iconst (v := nI 0) hK d_Ru_stands_35 (by decide) ?_
      refine gh_istore (lv' := [some (.ref ra), some (.ref pa), some (.ref oa), some (.int (nI fo)), some (.int (nI len)), some (.int (nI pat.length)), some (.int (nI fo)), some (.int (nI 0)), none]) hK d_Ru_stands_36 (Nat.le_of_ble_eq_true rfl) rfl ?_
      exact loop pat.length 0 _ none (by omega) z (by rw [z2]; rfl) (fun j hj => absurd hj (Nat.not_lt_zero j))
  · refine gh_iconst (v := nI 0) hK d_Ru_stands_13 (by decide) ?_
    exact gh_zret rfl hK hE d_Ru_stands_14 (Nat.le_of_ble_eq_true rfl) (Nat.le_of_ble_eq_true rfl) ⟨by rw [stO_f (fun q => absurd q.1 (by rw [hsl]; omega))]; rfl, rfl⟩
set_option maxRecDepth 20000 in
set_option maxHeartbeats 4000000 in
theorem c_Ru_addStands (l : Launch) (G : GG) {g : GH} {ra rt lt ut fl : Nat} {fr : Bool} {S A C : List Nat} {oa ot ob ou ocap fo len : Nat} {ys : List Nat} (h : Ru G g ra rt lt ut fr fl S A C) (ho : Lt G g oa ot ob ou ocap ys) (hf : fo + len ≤ ys.length) : gMet l G y_Ru_addStands b_Ru_addStands 4 (some .boolean) (rmk 2 0 0 49) [.ref ra, .ref oa, .int (nI fo), .int (nI len)] g (fun v g' => v = some (.int (nI (bn (stO fr A ((ys.drop fo).take len))))) ∧ g' = g) := by
  refine gMet.of [some (.ref ra), some (.ref oa), some (.int (nI fo)), some (.int (nI len))] (by decide +kernel) rfl (Nat.le_of_ble_eq_true rfl) rfl (fun X hK hI hE => ?_)
  obtain ⟨sa, sb, aa, ab, ca, cb, k1, k2, k3, k4⟩ := h
  refine gh_aload_n hK d_Ru_addStands_0 rfl ?_
  refine gh_aload_n hK d_Ru_addStands_1 rfl ?_
  refine gh_get hK d_Ru_addStands_2 in_Ru rfl k1 3 (by decide) kf_Ru_23 rfl rfl ?_
  refine gh_aload_n hK d_Ru_addStands_5 rfl ?_
  refine gh_iload_n hK d_Ru_addStands_6 rfl ?_
  refine gh_iload_n hK d_Ru_addStands_7 rfl ?_
  refine gh_callV (rest := []) [.ref aa, .ref oa, .int (nI fo), .int (nI len)] hK (c_Ru_stands l G k1 k3 ho hf) Y_Ru_stands V_Ru_stands km_Ru_43 k1 rfl rfl d_Ru_addStands_8 rfl rfl (Nat.le_of_ble_eq_true rfl) ⟨(Nat.le_of_ble_eq_true rfl), (Nat.le_of_ble_eq_true rfl)⟩ ⟨(Nat.le_of_ble_eq_true rfl), (Nat.le_of_ble_eq_true rfl)⟩ (fun v g' hp => ?_)
  rw [hp.1, hp.2]
  show gh_W l G _ X g _ _ [some (.ref ra), some (.ref oa), some (.int (nI fo)), some (.int (nI len))] 11 [.int (nI (bn (stO fr A ((ys.drop fo).take len))))]
  exact gh_zret (bn_nar _) hK hE d_Ru_addStands_11 (Nat.le_of_ble_eq_true rfl) (Nat.le_of_ble_eq_true rfl) ⟨rfl, rfl⟩
set_option maxRecDepth 20000 in
set_option maxHeartbeats 4000000 in
theorem c_Ru_goesWith (l : Launch) (G : GG) {g : GH} {ra rt lt ut fl : Nat} {fr : Bool} {S A C : List Nat} {ea ef : Nat} {w : List Nat} (h : Ru G g ra rt lt ut fr fl S A C) (he : En G g ea w ef) (hfl : fl < 2 ^ 26) (hef : ef < 2 ^ 26) : gMet l G y_Ru_goesWith b_Ru_goesWith 3 (some .boolean) (rmk 2 0 0 49) [.ref ra, .ref ea] g (fun v g' => v = some (.int (nI (bn (goO fr fl S C w ef)))) ∧ g' = g) := by
  refine gMet.of [some (.ref ra), some (.ref ea), none] (by decide +kernel) rfl (Nat.le_of_ble_eq_true rfl) rfl (fun X hK hI hE => ?_)
  obtain ⟨sa, sb, aa, ab, ca, cb, k1, k2, k3, k4⟩ := h
  obtain ⟨wa, wb, e1, e2⟩ := he
  obtain ⟨b1, b2⟩ := e2.len
  have hand : ef &&& fl < 2 ^ 26 := Nat.lt_of_le_of_lt Nat.and_le_left hef
  have ew : (w.drop 0).take w.length = w := by rw [List.drop_zero, List.take_length]
  refine gh_aload_n hK d_Ru_goesWith_0 rfl ?_
  refine gh_get hK d_Ru_goesWith_1 in_En rfl e1 0 (by decide) kf_Ru_29 rfl rfl ?_
  refine gh_callV (rest := []) [] hK (c_Lt_count l G e2) Y_Lt_count V_Lt_count km_Ru_34 e2.ob rfl rfl d_Ru_goesWith_4 rfl rfl (Nat.le_of_ble_eq_true rfl) ⟨(Nat.le_of_ble_eq_true rfl), (Nat.le_of_ble_eq_true rfl)⟩ ⟨(Nat.le_of_ble_eq_true rfl), (Nat.le_of_ble_eq_true rfl)⟩ (fun v g' hp => ?_)
  rw [hp.1, hp.2]
  show gh_W l G _ X g _ _ [some (.ref ra), some (.ref ea), none] 7 [.int (nI w.length)]
  refine gh_istore_n (lv' := [some (.ref ra), some (.ref ea), some (.int (nI w.length))]) hK d_Ru_goesWith_7 (Nat.le_of_ble_eq_true rfl) rfl ?_
  refine gh_aload_n hK d_Ru_goesWith_8 rfl ?_
  refine gh_get hK d_Ru_goesWith_9 in_En rfl e1 1 (by decide) kf_Ru_40 rfl rfl ?_
  refine gh_aload_n hK d_Ru_goesWith_12 rfl ?_
  refine gh_get hK d_Ru_goesWith_13 in_Ru rfl k1 1 (by decide) kf_Ru_15 rfl rfl ?_
  refine gh_iand hK d_Ru_goesWith_16 ?_
  rw [nI_and]
  refine gh_aload_n hK d_Ru_goesWith_17 rfl ?_
  refine gh_get hK d_Ru_goesWith_18 in_Ru rfl k1 1 (by decide) kf_Ru_15 rfl rfl ?_
  refine gh_icmp_neN hK d_Ru_goesWith_21 (tgt := 62) (by decide) (by omega) (by omega) (fun z => ?_) (fun z => ?_)
  · refine gh_iconst (v := nI 0) hK d_Ru_goesWith_62 (by decide) ?_
    exact gh_zret rfl hK hE d_Ru_goesWith_63 (Nat.le_of_ble_eq_true rfl) (Nat.le_of_ble_eq_true rfl) ⟨by rw [goO, decide_eq_false z]; rfl, rfl⟩
  · refine gh_aload_n hK d_Ru_goesWith_24 rfl ?_
    refine gh_aload_n hK d_Ru_goesWith_25 rfl ?_
    refine gh_get hK d_Ru_goesWith_26 in_Ru rfl k1 2 (by decide) kf_Ru_19 rfl rfl ?_
    refine gh_aload_n hK d_Ru_goesWith_29 rfl ?_
    refine gh_get hK d_Ru_goesWith_30 in_En rfl e1 0 (by decide) kf_Ru_29 rfl rfl ?_
    refine gh_iconst (v := nI 0) hK d_Ru_goesWith_33 (by decide) ?_
    refine gh_iload_n hK d_Ru_goesWith_34 rfl ?_
    refine gh_callV (rest := []) [.ref sa, .ref wa, .int (nI 0), .int (nI w.length)] hK (c_Ru_stands l G k1 k2 e2 (fo := 0) (len := w.length) (by omega)) Y_Ru_stands V_Ru_stands km_Ru_43 k1 rfl rfl d_Ru_goesWith_35 rfl rfl (Nat.le_of_ble_eq_true rfl) ⟨(Nat.le_of_ble_eq_true rfl), (Nat.le_of_ble_eq_true rfl)⟩ ⟨(Nat.le_of_ble_eq_true rfl), (Nat.le_of_ble_eq_true rfl)⟩ (fun v g' hp => ?_)
    rw [hp.1, hp.2]
    show gh_W l G _ X g _ _ [some (.ref ra), some (.ref ea), some (.int (nI w.length))] 38 [.int (nI (bn (stO fr S ((w.drop 0).take w.length))))]
    rw [ew]
    refine gh_if_eqB hK d_Ru_goesWith_38 (tgt := 62) (by decide) (fun z2 => ?_) (fun z2 => ?_)
    · refine gh_iconst (v := nI 0) hK d_Ru_goesWith_62 (by decide) ?_
      exact gh_zret rfl hK hE d_Ru_goesWith_63 (Nat.le_of_ble_eq_true rfl) (Nat.le_of_ble_eq_true rfl) ⟨by rw [goO, decide_eq_true z, z2]; rfl, rfl⟩
    · refine gh_aload_n hK d_Ru_goesWith_41 rfl ?_
      refine gh_aload_n hK d_Ru_goesWith_42 rfl ?_
      refine gh_get hK d_Ru_goesWith_43 in_Ru rfl k1 4 (by decide) kf_Ru_26 rfl rfl ?_
      refine gh_aload_n hK d_Ru_goesWith_46 rfl ?_
      refine gh_get hK d_Ru_goesWith_47 in_En rfl e1 0 (by decide) kf_Ru_29 rfl rfl ?_
      refine gh_iconst (v := nI 0) hK d_Ru_goesWith_50 (by decide) ?_
      refine gh_iload_n hK d_Ru_goesWith_51 rfl ?_
      refine gh_callV (rest := []) [.ref ca, .ref wa, .int (nI 0), .int (nI w.length)] hK (c_Ru_stands l G k1 k4 e2 (fo := 0) (len := w.length) (by omega)) Y_Ru_stands V_Ru_stands km_Ru_43 k1 rfl rfl d_Ru_goesWith_52 rfl rfl (Nat.le_of_ble_eq_true rfl) ⟨(Nat.le_of_ble_eq_true rfl), (Nat.le_of_ble_eq_true rfl)⟩ ⟨(Nat.le_of_ble_eq_true rfl), (Nat.le_of_ble_eq_true rfl)⟩ (fun v g' hp => ?_)
      rw [hp.1, hp.2]
      show gh_W l G _ X g _ _ [some (.ref ra), some (.ref ea), some (.int (nI w.length))] 55 [.int (nI (bn (stO fr C ((w.drop 0).take w.length))))]
      rw [ew]
      refine gh_if_eqB hK d_Ru_goesWith_55 (tgt := 62) (by decide) (fun z3 => ?_) (fun z3 => ?_)
      · refine gh_iconst (v := nI 0) hK d_Ru_goesWith_62 (by decide) ?_
        exact gh_zret rfl hK hE d_Ru_goesWith_63 (Nat.le_of_ble_eq_true rfl) (Nat.le_of_ble_eq_true rfl) ⟨by rw [goO, decide_eq_true z, z2, z3]; rfl, rfl⟩
      · refine gh_iconst (v := nI 1) hK d_Ru_goesWith_58 (by decide) ?_
        refine gh_goto (tgt := 63) hK d_Ru_goesWith_59 (by decide) ?_
        exact gh_zret rfl hK hE d_Ru_goesWith_63 (Nat.le_of_ble_eq_true rfl) (Nat.le_of_ble_eq_true rfl) ⟨by rw [goO, decide_eq_true z, z2, z3]; rfl, rfl⟩
end
section
abbrev b_Wl_init : ByteArray := prog_10_method_1_code
def y_Wl_init : MethodName := ⟨"SpellDesk$WordList", "<init>", "(LSpellDesk$Letters;I)V"⟩
set_option maxRecDepth 20000 in
theorem Y_Wl_init : gh_Y y_Wl_init b_Wl_init 3 none 2 := ⟨gt_in (i := 195) rfl rfl, gt_in (i := 13) (by decide +kernel) rfl, by decide +kernel, by decide +kernel, by decide +kernel⟩
theorem V_Wl_init : Cond.instanceMethod y_Wl_init ∈ gTbl := (gt_in (i := 194) (by decide +kernel) rfl)
theorem d_Wl_init_0 : decode b_Wl_init 0 = .ok (.aload_n 0, 1) := by decide +kernel
theorem d_Wl_init_1 : decode b_Wl_init 1 = .ok (.invokespecial 3, 3) := by decide +kernel
theorem d_Wl_init_4 : decode b_Wl_init 4 = .ok (.aload_n 0, 1) := by decide +kernel
theorem d_Wl_init_5 : decode b_Wl_init 5 = .ok (.aload_n 1, 1) := by decide +kernel
theorem d_Wl_init_6 : decode b_Wl_init 6 = .ok (.putfield 9, 3) := by decide +kernel
theorem d_Wl_init_9 : decode b_Wl_init 9 = .ok (.aload_n 0, 1) := by decide +kernel
theorem d_Wl_init_10 : decode b_Wl_init 10 = .ok (.iload_n 2, 1) := by decide +kernel
theorem d_Wl_init_11 : decode b_Wl_init 11 = .ok (.iconst 0, 1) := by decide +kernel
theorem d_Wl_init_12 : decode b_Wl_init 12 = .ok (.invokestatic 15, 3) := by decide +kernel
theorem d_Wl_init_15 : decode b_Wl_init 15 = .ok (.newarray .int, 2) := by decide +kernel
theorem d_Wl_init_17 : decode b_Wl_init 17 = .ok (.putfield 21, 3) := by decide +kernel
theorem d_Wl_init_20 : decode b_Wl_init 20 = .ok (.aload_n 0, 1) := by decide +kernel
theorem d_Wl_init_21 : decode b_Wl_init 21 = .ok (.iload_n 2, 1) := by decide +kernel
theorem d_Wl_init_22 : decode b_Wl_init 22 = .ok (.iconst 0, 1) := by decide +kernel
theorem d_Wl_init_23 : decode b_Wl_init 23 = .ok (.invokestatic 15, 3) := by decide +kernel
theorem d_Wl_init_26 : decode b_Wl_init 26 = .ok (.newarray .int, 2) := by decide +kernel
theorem d_Wl_init_28 : decode b_Wl_init 28 = .ok (.putfield 25, 3) := by decide +kernel
theorem d_Wl_init_31 : decode b_Wl_init 31 = .ok (.return_, 1) := by decide +kernel
abbrev b_Wl_clear : ByteArray := prog_10_method_6_code
def y_Wl_clear : MethodName := ⟨"SpellDesk$WordList", "clear", "()V"⟩
set_option maxRecDepth 20000 in
theorem Y_Wl_clear : gh_Y y_Wl_clear b_Wl_clear 1 none 0 := ⟨gt_in (i := 883) rfl rfl, gt_in (i := 13) (by decide +kernel) rfl, by decide +kernel, by decide +kernel, by decide +kernel⟩
theorem V_Wl_clear : Cond.instanceMethod y_Wl_clear ∈ gTbl ∧ Cond.selects y_Wl_clear.cls y_Wl_clear y_Wl_clear ∈ gTbl := ⟨(gt_in (i := 881) (by decide +kernel) rfl), (gt_in (i := 882) (by decide +kernel) rfl)⟩
theorem d_Wl_clear_0 : decode b_Wl_clear 0 = .ok (.aload_n 0, 1) := by decide +kernel
theorem d_Wl_clear_1 : decode b_Wl_clear 1 = .ok (.iconst 0, 1) := by decide +kernel
theorem d_Wl_clear_2 : decode b_Wl_clear 2 = .ok (.putfield 28, 3) := by decide +kernel
theorem d_Wl_clear_5 : decode b_Wl_clear 5 = .ok (.return_, 1) := by decide +kernel
abbrev b_Wl_put : ByteArray := prog_10_method_7_code
def y_Wl_put : MethodName := ⟨"SpellDesk$WordList", "put", "(II)V"⟩
set_option maxRecDepth 20000 in
theorem Y_Wl_put : gh_Y y_Wl_put b_Wl_put 8 none 2 := ⟨gt_in (i := 891) rfl rfl, gt_in (i := 13) (by decide +kernel) rfl, by decide +kernel, by decide +kernel, by decide +kernel⟩
theorem V_Wl_put : Cond.instanceMethod y_Wl_put ∈ gTbl ∧ Cond.selects y_Wl_put.cls y_Wl_put y_Wl_put ∈ gTbl := ⟨(gt_in (i := 889) (by decide +kernel) rfl), (gt_in (i := 890) (by decide +kernel) rfl)⟩
theorem d_Wl_put_0 : decode b_Wl_put 0 = .ok (.iconst 0, 1) := by decide +kernel
theorem d_Wl_put_1 : decode b_Wl_put 1 = .ok (.istore_n 3, 1) := by decide +kernel
theorem d_Wl_put_2 : decode b_Wl_put 2 = .ok (.aload_n 0, 1) := by decide +kernel
theorem d_Wl_put_3 : decode b_Wl_put 3 = .ok (.getfield 28, 3) := by decide +kernel
theorem d_Wl_put_6 : decode b_Wl_put 6 = .ok (.istore 4, 2) := by decide +kernel
theorem d_Wl_put_8 : decode b_Wl_put 8 = .ok (.iconst 0, 1) := by decide +kernel
theorem d_Wl_put_9 : decode b_Wl_put 9 = .ok (.istore 5, 2) := by decide +kernel
theorem d_Wl_put_11 : decode b_Wl_put 11 = .ok (.iload 5, 2) := by decide +kernel
theorem d_Wl_put_13 : decode b_Wl_put 13 = .ok (.bipush 32, 2) := by decide +kernel
theorem d_Wl_put_15 : decode b_Wl_put 15 = .ok (.if_icmp .ge 75, 3) := by decide +kernel
theorem d_Wl_put_18 : decode b_Wl_put 18 = .ok (.iload_n 3, 1) := by decide +kernel
theorem d_Wl_put_19 : decode b_Wl_put 19 = .ok (.iload 4, 2) := by decide +kernel
theorem d_Wl_put_21 : decode b_Wl_put 21 = .ok (.if_icmp .ge 69, 3) := by decide +kernel
theorem d_Wl_put_24 : decode b_Wl_put 24 = .ok (.iload_n 3, 1) := by decide +kernel
theorem d_Wl_put_25 : decode b_Wl_put 25 = .ok (.iload 4, 2) := by decide +kernel
theorem d_Wl_put_27 : decode b_Wl_put 27 = .ok (.iadd, 1) := by decide +kernel
theorem d_Wl_put_28 : decode b_Wl_put 28 = .ok (.iconst 2, 1) := by decide +kernel
theorem d_Wl_put_29 : decode b_Wl_put 29 = .ok (.idiv, 1) := by decide +kernel
theorem d_Wl_put_30 : decode b_Wl_put 30 = .ok (.istore 6, 2) := by decide +kernel
theorem d_Wl_put_32 : decode b_Wl_put 32 = .ok (.aload_n 0, 1) := by decide +kernel
theorem d_Wl_put_33 : decode b_Wl_put 33 = .ok (.getfield 9, 3) := by decide +kernel
theorem d_Wl_put_36 : decode b_Wl_put 36 = .ok (.aload_n 0, 1) := by decide +kernel
theorem d_Wl_put_37 : decode b_Wl_put 37 = .ok (.getfield 21, 3) := by decide +kernel
theorem d_Wl_put_40 : decode b_Wl_put 40 = .ok (.iload 6, 2) := by decide +kernel
theorem d_Wl_put_42 : decode b_Wl_put 42 = .ok (.iaload, 1) := by decide +kernel
theorem d_Wl_put_43 : decode b_Wl_put 43 = .ok (.aload_n 0, 1) := by decide +kernel
theorem d_Wl_put_44 : decode b_Wl_put 44 = .ok (.getfield 25, 3) := by decide +kernel
theorem d_Wl_put_47 : decode b_Wl_put 47 = .ok (.iload 6, 2) := by decide +kernel
theorem d_Wl_put_49 : decode b_Wl_put 49 = .ok (.iaload, 1) := by decide +kernel
theorem d_Wl_put_50 : decode b_Wl_put 50 = .ok (.aload_n 0, 1) := by decide +kernel
theorem d_Wl_put_51 : decode b_Wl_put 51 = .ok (.getfield 9, 3) := by decide +kernel
theorem d_Wl_put_54 : decode b_Wl_put 54 = .ok (.iload_n 1, 1) := by decide +kernel
theorem d_Wl_put_55 : decode b_Wl_put 55 = .ok (.iload_n 2, 1) := by decide +kernel
theorem d_Wl_put_56 : decode b_Wl_put 56 = .ok (.invokevirtual 32, 3) := by decide +kernel
theorem d_Wl_put_59 : decode b_Wl_put 59 = .ok (.istore 7, 2) := by decide +kernel
theorem d_Wl_put_61 : decode b_Wl_put 61 = .ok (.iload 7, 2) := by decide +kernel
theorem d_Wl_put_63 : decode b_Wl_put 63 = .ok (.ifCond .ne 4, 3) := by decide +kernel
theorem d_Wl_put_66 : decode b_Wl_put 66 = .ok (.return_, 1) := by decide +kernel
theorem d_Wl_put_67 : decode b_Wl_put 67 = .ok (.iload 7, 2) := by decide +kernel
theorem d_Wl_put_69 : decode b_Wl_put 69 = .ok (.ifCond .ge 11, 3) := by decide +kernel
theorem d_Wl_put_72 : decode b_Wl_put 72 = .ok (.iload 6, 2) := by decide +kernel
theorem d_Wl_put_74 : decode b_Wl_put 74 = .ok (.iconst 1, 1) := by decide +kernel
theorem d_Wl_put_75 : decode b_Wl_put 75 = .ok (.iadd, 1) := by decide +kernel
theorem d_Wl_put_76 : decode b_Wl_put 76 = .ok (.istore_n 3, 1) := by decide +kernel
theorem d_Wl_put_77 : decode b_Wl_put 77 = .ok (.goto 7, 3) := by decide +kernel
theorem d_Wl_put_80 : decode b_Wl_put 80 = .ok (.iload 6, 2) := by decide +kernel
theorem d_Wl_put_82 : decode b_Wl_put 82 = .ok (.istore 4, 2) := by decide +kernel
theorem d_Wl_put_84 : decode b_Wl_put 84 = .ok (.iinc 5 1, 3) := by decide +kernel
theorem d_Wl_put_87 : decode b_Wl_put 87 = .ok (.goto (-76), 3) := by decide +kernel
theorem d_Wl_put_90 : decode b_Wl_put 90 = .ok (.aload_n 0, 1) := by decide +kernel
theorem d_Wl_put_91 : decode b_Wl_put 91 = .ok (.getfield 28, 3) := by decide +kernel
theorem d_Wl_put_94 : decode b_Wl_put 94 = .ok (.aload_n 0, 1) := by decide +kernel
theorem d_Wl_put_95 : decode b_Wl_put 95 = .ok (.getfield 21, 3) := by decide +kernel
theorem d_Wl_put_98 : decode b_Wl_put 98 = .ok (.arraylength, 1) := by decide +kernel
theorem d_Wl_put_99 : decode b_Wl_put 99 = .ok (.if_icmp .lt 4, 3) := by decide +kernel
theorem d_Wl_put_102 : decode b_Wl_put 102 = .ok (.return_, 1) := by decide +kernel
theorem d_Wl_put_103 : decode b_Wl_put 103 = .ok (.aload_n 0, 1) := by decide +kernel
theorem d_Wl_put_104 : decode b_Wl_put 104 = .ok (.getfield 21, 3) := by decide +kernel
theorem d_Wl_put_107 : decode b_Wl_put 107 = .ok (.iload_n 3, 1) := by decide +kernel
theorem d_Wl_put_108 : decode b_Wl_put 108 = .ok (.aload_n 0, 1) := by decide +kernel
theorem d_Wl_put_109 : decode b_Wl_put 109 = .ok (.getfield 21, 3) := by decide +kernel
theorem d_Wl_put_112 : decode b_Wl_put 112 = .ok (.iload_n 3, 1) := by decide +kernel
theorem d_Wl_put_113 : decode b_Wl_put 113 = .ok (.iconst 1, 1) := by decide +kernel
theorem d_Wl_put_114 : decode b_Wl_put 114 = .ok (.iadd, 1) := by decide +kernel
theorem d_Wl_put_115 : decode b_Wl_put 115 = .ok (.aload_n 0, 1) := by decide +kernel
theorem d_Wl_put_116 : decode b_Wl_put 116 = .ok (.getfield 28, 3) := by decide +kernel
theorem d_Wl_put_119 : decode b_Wl_put 119 = .ok (.iload_n 3, 1) := by decide +kernel
theorem d_Wl_put_120 : decode b_Wl_put 120 = .ok (.isub, 1) := by decide +kernel
theorem d_Wl_put_121 : decode b_Wl_put 121 = .ok (.invokestatic 38, 3) := by decide +kernel
theorem d_Wl_put_124 : decode b_Wl_put 124 = .ok (.aload_n 0, 1) := by decide +kernel
theorem d_Wl_put_125 : decode b_Wl_put 125 = .ok (.getfield 25, 3) := by decide +kernel
theorem d_Wl_put_128 : decode b_Wl_put 128 = .ok (.iload_n 3, 1) := by decide +kernel
theorem d_Wl_put_129 : decode b_Wl_put 129 = .ok (.aload_n 0, 1) := by decide +kernel
theorem d_Wl_put_130 : decode b_Wl_put 130 = .ok (.getfield 25, 3) := by decide +kernel
theorem d_Wl_put_133 : decode b_Wl_put 133 = .ok (.iload_n 3, 1) := by decide +kernel
theorem d_Wl_put_134 : decode b_Wl_put 134 = .ok (.iconst 1, 1) := by decide +kernel
theorem d_Wl_put_135 : decode b_Wl_put 135 = .ok (.iadd, 1) := by decide +kernel
theorem d_Wl_put_136 : decode b_Wl_put 136 = .ok (.aload_n 0, 1) := by decide +kernel
theorem d_Wl_put_137 : decode b_Wl_put 137 = .ok (.getfield 28, 3) := by decide +kernel
theorem d_Wl_put_140 : decode b_Wl_put 140 = .ok (.iload_n 3, 1) := by decide +kernel
theorem d_Wl_put_141 : decode b_Wl_put 141 = .ok (.isub, 1) := by decide +kernel
theorem d_Wl_put_142 : decode b_Wl_put 142 = .ok (.invokestatic 38, 3) := by decide +kernel
theorem d_Wl_put_145 : decode b_Wl_put 145 = .ok (.aload_n 0, 1) := by decide +kernel
theorem d_Wl_put_146 : decode b_Wl_put 146 = .ok (.getfield 21, 3) := by decide +kernel
theorem d_Wl_put_149 : decode b_Wl_put 149 = .ok (.iload_n 3, 1) := by decide +kernel
theorem d_Wl_put_150 : decode b_Wl_put 150 = .ok (.iload_n 1, 1) := by decide +kernel
theorem d_Wl_put_151 : decode b_Wl_put 151 = .ok (.iastore, 1) := by decide +kernel
theorem d_Wl_put_152 : decode b_Wl_put 152 = .ok (.aload_n 0, 1) := by decide +kernel
theorem d_Wl_put_153 : decode b_Wl_put 153 = .ok (.getfield 25, 3) := by decide +kernel
theorem d_Wl_put_156 : decode b_Wl_put 156 = .ok (.iload_n 3, 1) := by decide +kernel
theorem d_Wl_put_157 : decode b_Wl_put 157 = .ok (.iload_n 2, 1) := by decide +kernel
theorem d_Wl_put_158 : decode b_Wl_put 158 = .ok (.iastore, 1) := by decide +kernel
theorem d_Wl_put_159 : decode b_Wl_put 159 = .ok (.aload_n 0, 1) := by decide +kernel
theorem d_Wl_put_160 : decode b_Wl_put 160 = .ok (.dup, 1) := by decide +kernel
theorem d_Wl_put_161 : decode b_Wl_put 161 = .ok (.getfield 28, 3) := by decide +kernel
theorem d_Wl_put_164 : decode b_Wl_put 164 = .ok (.iconst 1, 1) := by decide +kernel
theorem d_Wl_put_165 : decode b_Wl_put 165 = .ok (.iadd, 1) := by decide +kernel
theorem d_Wl_put_166 : decode b_Wl_put 166 = .ok (.putfield 28, 3) := by decide +kernel
theorem d_Wl_put_169 : decode b_Wl_put 169 = .ok (.return_, 1) := by decide +kernel
abbrev b_Wl_count : ByteArray := prog_10_method_3_code
def y_Wl_count : MethodName := ⟨"SpellDesk$WordList", "count", "()I"⟩
set_option maxRecDepth 20000 in
theorem Y_Wl_count : gh_Y y_Wl_count b_Wl_count 1 (some .int) 0 := ⟨gt_in (i := 898) rfl rfl, gt_in (i := 13) (by decide +kernel) rfl, by decide +kernel, by decide +kernel, by decide +kernel⟩
theorem V_Wl_count : Cond.instanceMethod y_Wl_count ∈ gTbl ∧ Cond.selects y_Wl_count.cls y_Wl_count y_Wl_count ∈ gTbl := ⟨(gt_in (i := 896) (by decide +kernel) rfl), (gt_in (i := 897) (by decide +kernel) rfl)⟩
theorem d_Wl_count_0 : decode b_Wl_count 0 = .ok (.aload_n 0, 1) := by decide +kernel
theorem d_Wl_count_1 : decode b_Wl_count 1 = .ok (.getfield 28, 3) := by decide +kernel
theorem d_Wl_count_4 : decode b_Wl_count 4 = .ok (.ireturn, 1) := by decide +kernel
abbrev b_Wl_from : ByteArray := prog_10_method_4_code
def y_Wl_from : MethodName := ⟨"SpellDesk$WordList", "from", "(I)I"⟩
set_option maxRecDepth 20000 in
theorem Y_Wl_from : gh_Y y_Wl_from b_Wl_from 2 (some .int) 1 := ⟨gt_in (i := 902) rfl rfl, gt_in (i := 13) (by decide +kernel) rfl, by decide +kernel, by decide +kernel, by decide +kernel⟩
theorem V_Wl_from : Cond.instanceMethod y_Wl_from ∈ gTbl ∧ Cond.selects y_Wl_from.cls y_Wl_from y_Wl_from ∈ gTbl := ⟨(gt_in (i := 900) (by decide +kernel) rfl), (gt_in (i := 901) (by decide +kernel) rfl)⟩
theorem d_Wl_from_0 : decode b_Wl_from 0 = .ok (.iload_n 1, 1) := by decide +kernel
theorem d_Wl_from_1 : decode b_Wl_from 1 = .ok (.ifCond .lt 20, 3) := by decide +kernel
theorem d_Wl_from_4 : decode b_Wl_from 4 = .ok (.iload_n 1, 1) := by decide +kernel
theorem d_Wl_from_5 : decode b_Wl_from 5 = .ok (.aload_n 0, 1) := by decide +kernel
theorem d_Wl_from_6 : decode b_Wl_from 6 = .ok (.getfield 28, 3) := by decide +kernel
theorem d_Wl_from_9 : decode b_Wl_from 9 = .ok (.if_icmp .ge 12, 3) := by decide +kernel
theorem d_Wl_from_12 : decode b_Wl_from 12 = .ok (.aload_n 0, 1) := by decide +kernel
theorem d_Wl_from_13 : decode b_Wl_from 13 = .ok (.getfield 21, 3) := by decide +kernel
theorem d_Wl_from_16 : decode b_Wl_from 16 = .ok (.iload_n 1, 1) := by decide +kernel
theorem d_Wl_from_17 : decode b_Wl_from 17 = .ok (.iaload, 1) := by decide +kernel
theorem d_Wl_from_18 : decode b_Wl_from 18 = .ok (.goto 4, 3) := by decide +kernel
theorem d_Wl_from_21 : decode b_Wl_from 21 = .ok (.iconst 0, 1) := by decide +kernel
theorem d_Wl_from_22 : decode b_Wl_from 22 = .ok (.ireturn, 1) := by decide +kernel
abbrev b_Wl_length : ByteArray := prog_10_method_5_code
def y_Wl_length : MethodName := ⟨"SpellDesk$WordList", "length", "(I)I"⟩
set_option maxRecDepth 20000 in
theorem Y_Wl_length : gh_Y y_Wl_length b_Wl_length 2 (some .int) 1 := ⟨gt_in (i := 906) rfl rfl, gt_in (i := 13) (by decide +kernel) rfl, by decide +kernel, by decide +kernel, by decide +kernel⟩
theorem V_Wl_length : Cond.instanceMethod y_Wl_length ∈ gTbl ∧ Cond.selects y_Wl_length.cls y_Wl_length y_Wl_length ∈ gTbl := ⟨(gt_in (i := 904) (by decide +kernel) rfl), (gt_in (i := 905) (by decide +kernel) rfl)⟩
theorem d_Wl_length_0 : decode b_Wl_length 0 = .ok (.iload_n 1, 1) := by decide +kernel
theorem d_Wl_length_1 : decode b_Wl_length 1 = .ok (.ifCond .lt 20, 3) := by decide +kernel
theorem d_Wl_length_4 : decode b_Wl_length 4 = .ok (.iload_n 1, 1) := by decide +kernel
theorem d_Wl_length_5 : decode b_Wl_length 5 = .ok (.aload_n 0, 1) := by decide +kernel
theorem d_Wl_length_6 : decode b_Wl_length 6 = .ok (.getfield 28, 3) := by decide +kernel
theorem d_Wl_length_9 : decode b_Wl_length 9 = .ok (.if_icmp .ge 12, 3) := by decide +kernel
theorem d_Wl_length_12 : decode b_Wl_length 12 = .ok (.aload_n 0, 1) := by decide +kernel
theorem d_Wl_length_13 : decode b_Wl_length 13 = .ok (.getfield 25, 3) := by decide +kernel
theorem d_Wl_length_16 : decode b_Wl_length 16 = .ok (.iload_n 1, 1) := by decide +kernel
theorem d_Wl_length_17 : decode b_Wl_length 17 = .ok (.iaload, 1) := by decide +kernel
theorem d_Wl_length_18 : decode b_Wl_length 18 = .ok (.goto 4, 3) := by decide +kernel
theorem d_Wl_length_21 : decode b_Wl_length 21 = .ok (.iconst 0, 1) := by decide +kernel
theorem d_Wl_length_22 : decode b_Wl_length 22 = .ok (.ireturn, 1) := by decide +kernel
abbrev b_Wl_row : ByteArray := prog_10_method_2_code
def y_Wl_row : MethodName := ⟨"SpellDesk$WordList", "row", "()LSpellDesk$Letters;"⟩
set_option maxRecDepth 20000 in
theorem Y_Wl_row : gh_Y y_Wl_row b_Wl_row 1 (some (.object "SpellDesk$Letters")) 0 := ⟨gt_in (i := 1032) rfl rfl, gt_in (i := 13) (by decide +kernel) rfl, by decide +kernel, by decide +kernel, by decide +kernel⟩
theorem V_Wl_row : Cond.instanceMethod y_Wl_row ∈ gTbl ∧ Cond.selects y_Wl_row.cls y_Wl_row y_Wl_row ∈ gTbl := ⟨(gt_in (i := 1030) (by decide +kernel) rfl), (gt_in (i := 1031) (by decide +kernel) rfl)⟩
theorem d_Wl_row_0 : decode b_Wl_row 0 = .ok (.aload_n 0, 1) := by decide +kernel
theorem d_Wl_row_1 : decode b_Wl_row 1 = .ok (.getfield 9, 3) := by decide +kernel
theorem d_Wl_row_4 : decode b_Wl_row 4 = .ok (.areturn, 1) := by decide +kernel
theorem kf_Wl_9 : Cond.fieldLink "SpellDesk$WordList" 9 "SpellDesk$WordList" "row" "LSpellDesk$Letters;" ∈ gTbl := (gt_in (i := 198) (by decide +kernel) rfl)
theorem kf_Wl_21 : Cond.fieldLink "SpellDesk$WordList" 21 "SpellDesk$WordList" "starts" "[I" ∈ gTbl := (gt_in (i := 199) (by decide +kernel) rfl)
theorem kf_Wl_25 : Cond.fieldLink "SpellDesk$WordList" 25 "SpellDesk$WordList" "lengths" "[I" ∈ gTbl := (gt_in (i := 200) (by decide +kernel) rfl)
theorem kf_Wl_28 : Cond.fieldLink "SpellDesk$WordList" 28 "SpellDesk$WordList" "count" "I" ∈ gTbl := (gt_in (i := 201) (by decide +kernel) rfl)
theorem km_Wl_3 : Cond.methodLink "SpellDesk$WordList" 3 ⟨"java/lang/Object", "<init>", "()V"⟩ ∈ gTbl := (gt_in (i := 196) (by decide +kernel) rfl)
theorem km_Wl_15 : Cond.methodLink "SpellDesk$WordList" 15 ⟨"java/lang/Math", "max", "(II)I"⟩ ∈ gTbl := (gt_in (i := 197) (by decide +kernel) rfl)
theorem km_Wl_32 : Cond.methodLink "SpellDesk$WordList" 32 ⟨"SpellDesk$Letters", "compare", "(IILSpellDesk$Letters;II)I"⟩ ∈ gTbl := (gt_in (i := 892) (by decide +kernel) rfl)
theorem km_Wl_38 : Cond.methodLink "SpellDesk$WordList" 38 ⟨"java/lang/System", "arraycopy", "(Ljava/lang/Object;ILjava/lang/Object;II)V"⟩ ∈ gTbl := (gt_in (i := 893) (by decide +kernel) rfl)
end
section
/-! LISTS OF WORDS: stretches of one row, in order, each word once -/
def wls (ys : List Nat) (ps : List (Nat × Nat)) : List (List Nat) := ps.map fun p => (ys.drop p.1).take p.2
def Wl (G : GG) (g : GH) (wa tw sa ts la tl ra cap : Nat) (ps : List (Nat × Nat)) : Prop := ∃ f1 f2, g wa = some (tw, .inr (9, [.ref ra, .ref sa, .ref la, .int (nI ps.length)])) ∧ g sa = some (ts, .inl (G.2.1 1, cap, .inl f1)) ∧ g la = some (tl, .inl (G.2.1 1, cap, .inl f2)) ∧ ps.length ≤ cap ∧ cap < 65536 ∧ ∀ i p, ps[i]? = some p → f1 i = nI p.1 ∧ f2 i = nI p.2
theorem Wl.M {G : GG} {g g' : GH} {wa tw sa ts la tl ra cap : Nat} {ps : List (Nat × Nat)} {S : List Nat} (h : Wl G g wa tw sa ts la tl ra cap ps) (hM : gh_M S g g') (h1 : tw ∉ S) (h2 : ts ∉ S) (h3 : tl ∉ S) : Wl G g' wa tw sa ts la tl ra cap ps := by
  obtain ⟨f1, f2, k1, k2, k3, k4⟩ := h
  exact ⟨f1, f2, hM wa tw _ k1 h1, hM sa ts _ k2 h2, hM la tl _ k3 h3, k4⟩
theorem Wl.ob {G : GG} {g : GH} {wa tw sa ts la tl ra cap : Nat} {ps : List (Nat × Nat)} (h : Wl G g wa tw sa ts la tl ra cap ps) : g wa = some (tw, .inr (9, [.ref ra, .ref sa, .ref la, .int (nI ps.length)])) := by
  obtain ⟨f1, f2, k1, k2, k3, k4⟩ := h
  exact k1
set_option maxRecDepth 20000 in
set_option maxHeartbeats 4000000 in
theorem c_Wl_count (l : Launch) (G : GG) {g : GH} {wa tw sa ts la tl ra cap : Nat} {ps : List (Nat × Nat)} (h : Wl G g wa tw sa ts la tl ra cap ps) : gMet l G y_Wl_count b_Wl_count 1 (some .int) (rmk 0 0 0 0) [.ref wa] g (fun v g' => v = some (.int (nI ps.length)) ∧ g' = g) := by
  refine gMet.of [some (.ref wa)] (by decide +kernel) rfl (Nat.le_of_ble_eq_true rfl) rfl (fun X hK hI hE => ?_)
  obtain ⟨f1, f2, k1, k2, k3, k4, k5, k6⟩ := h
  refine gh_aload_n hK d_Wl_count_0 rfl ?_
  refine gh_get hK d_Wl_count_1 in_Wl rfl k1 3 (by decide) kf_Wl_28 rfl rfl ?_
  exact gh_iret hK hE d_Wl_count_4 (Nat.le_of_ble_eq_true rfl) (Nat.le_of_ble_eq_true rfl) ⟨rfl, rfl⟩
set_option maxRecDepth 20000 in
set_option maxHeartbeats 4000000 in
theorem c_Wl_row (l : Launch) (G : GG) {g : GH} {wa tw sa ts la tl ra cap : Nat} {ps : List (Nat × Nat)} (h : Wl G g wa tw sa ts la tl ra cap ps) : gMet l G y_Wl_row b_Wl_row 1 (some (.object "SpellDesk$Letters")) (rmk 0 0 0 0) [.ref wa] g (fun v g' => v = some (.ref ra) ∧ g' = g) := by
  refine gMet.of [some (.ref wa)] (by decide +kernel) rfl (Nat.le_of_ble_eq_true rfl) rfl (fun X hK hI hE => ?_)
  obtain ⟨f1, f2, k1, k2, k3, k4, k5, k6⟩ := h
  refine gh_aload_n hK d_Wl_row_0 rfl ?_
  refine gh_get hK d_Wl_row_1 in_Wl rfl k1 0 (by decide) kf_Wl_9 rfl rfl ?_
  exact gh_aret (Or.inl ⟨_, rfl⟩) (Or.inr ⟨_, rfl⟩) hK hE d_Wl_row_4 (Nat.le_of_ble_eq_true rfl) (Nat.le_of_ble_eq_true rfl) ⟨rfl, rfl⟩
set_option maxRecDepth 20000 in
set_option maxHeartbeats 4000000 in
theorem c_Wl_clear (l : Launch) (G : GG) {g : GH} {wa tw sa ts la tl ra cap : Nat} {ps : List (Nat × Nat)} (h : Wl G g wa tw sa ts la tl ra cap ps) : gMet l G y_Wl_clear b_Wl_clear 1 none (rmk 0 0 0 0) [.ref wa] g (fun v g' => v = none ∧ Wl G g' wa tw sa ts la tl ra cap [] ∧ gh_N [wa] g g') := by
  refine gMet.of [some (.ref wa)] (by decide +kernel) rfl (Nat.le_of_ble_eq_true rfl) rfl (fun X hK hI hE => ?_)
  obtain ⟨f1, f2, k1, k2, k3, k4, k5, k6⟩ := h
  have n1 : wa ≠ sa := fun z => by rw [z, k2] at k1; cases k1
  have n2 : wa ≠ la := fun z => by rw [z, k3] at k1; cases k1
  refine gh_aload_n hK d_Wl_clear_0 rfl ?_
  refine gh_iconst (v := nI 0) hK d_Wl_clear_1 (by decide) ?_
  refine gh_put hK d_Wl_clear_2 in_Wl t_Wl ty_Wl nm_Wl rfl k1 3 (by decide) kf_Wl_28 rfl rfl rfl rfl (Nat.le_of_ble_eq_true rfl) rfl ?_
  exact gh_vret hK hE d_Wl_clear_5 (Nat.le_of_ble_eq_true rfl) (Nat.le_of_ble_eq_true rfl) ⟨rfl, ⟨f1, f2, gh_us, by rw [gh_un n1.symm]; exact k2, by rw [gh_un n2.symm]; exact k3, Nat.zero_le _, k5, fun i p hp => by simp at hp⟩, gh_N.up (by simp)⟩
set_option maxRecDepth 20000 in
set_option maxHeartbeats 4000000 in
theorem c_Wl_from (l : Launch) (G : GG) {g : GH} {wa tw sa ts la tl ra cap : Nat} {ps : List (Nat × Nat)} {j : Nat} {p : Nat × Nat} (h : Wl G g wa tw sa ts la tl ra cap ps) (hj : ps[j]? = some p) : gMet l G y_Wl_from b_Wl_from 2 (some .int) (rmk 0 0 0 0) [.ref wa, .int (nI j)] g (fun v g' => v = some (.int (nI p.1)) ∧ g' = g) := by
  refine gMet.of [some (.ref wa), some (.int (nI j))] (by decide +kernel) rfl (Nat.le_of_ble_eq_true rfl) rfl (fun X hK hI hE => ?_)
  obtain ⟨f1, f2, k1, k2, k3, k4, k5, k6⟩ := h
  have hlt := (List.getElem?_eq_some_iff.mp hj).1
  refine gh_iload_n hK d_Wl_from_0 rfl ?_
  refine gh_if_ltN hK d_Wl_from_1 (tgt := 21) (by decide) (by omega) ?_
  refine gh_iload_n hK d_Wl_from_4 rfl ?_
  refine gh_aload_n hK d_Wl_from_5 rfl ?_
  refine gh_get hK d_Wl_from_6 in_Wl rfl k1 3 (by decide) kf_Wl_28 rfl rfl ?_
  refine gh_icmp_geN hK d_Wl_from_9 (tgt := 21) (by decide) (by omega) (by omega) (fun z => absurd z (by omega)) (fun z => ?_)
  refine gh_aload_n hK d_Wl_from_12 rfl ?_
  refine gh_get hK d_Wl_from_13 in_Wl rfl k1 1 (by decide) kf_Wl_21 rfl rfl ?_
  refine gh_iload_n hK d_Wl_from_16 rfl ?_
  refine gh_ialdN (j := j) hK d_Wl_from_17 k2 (t0 := 1) rfl (by omega) (by omega) ?_
  rw [(k6 j p hj).1]
  refine gh_goto (tgt := 22) hK d_Wl_from_18 (by decide) ?_
  exact gh_iret hK hE d_Wl_from_22 (Nat.le_of_ble_eq_true rfl) (Nat.le_of_ble_eq_true rfl) ⟨rfl, rfl⟩
set_option maxRecDepth 20000 in
set_option maxHeartbeats 4000000 in
theorem c_Wl_length (l : Launch) (G : GG) {g : GH} {wa tw sa ts la tl ra cap : Nat} {ps : List (Nat × Nat)} {j : Nat} {p : Nat × Nat} (h : Wl G g wa tw sa ts la tl ra cap ps) (hj : ps[j]? = some p) : gMet l G y_Wl_length b_Wl_length 2 (some .int) (rmk 0 0 0 0) [.ref wa, .int (nI j)] g (fun v g' => v = some (.int (nI p.2)) ∧ g' = g) := by
  refine gMet.of [some (.ref wa), some (.int (nI j))] (by decide +kernel) rfl (Nat.le_of_ble_eq_true rfl) rfl (fun X hK hI hE => ?_)
  obtain ⟨f1, f2, k1, k2, k3, k4, k5, k6⟩ := h
  have hlt := (List.getElem?_eq_some_iff.mp hj).1
  refine gh_iload_n hK d_Wl_length_0 rfl ?_
  refine gh_if_ltN hK d_Wl_length_1 (tgt := 21) (by decide) (by omega) ?_
  refine gh_iload_n hK d_Wl_length_4 rfl ?_
  refine gh_aload_n hK d_Wl_length_5 rfl ?_
  refine gh_get hK d_Wl_length_6 in_Wl rfl k1 3 (by decide) kf_Wl_28 rfl rfl ?_
  refine gh_icmp_geN hK d_Wl_length_9 (tgt := 21) (by decide) (by omega) (by omega) (fun z => absurd z (by omega)) (fun z => ?_)
  refine gh_aload_n hK d_Wl_length_12 rfl ?_
  refine gh_get hK d_Wl_length_13 in_Wl rfl k1 2 (by decide) kf_Wl_25 rfl rfl ?_
  refine gh_iload_n hK d_Wl_length_16 rfl ?_
  refine gh_ialdN (j := j) hK d_Wl_length_17 k3 (t0 := 1) rfl (by omega) (by omega) ?_
  rw [(k6 j p hj).2]
  refine gh_goto (tgt := 22) hK d_Wl_length_18 (by decide) ?_
  exact gh_iret hK hE d_Wl_length_22 (Nat.le_of_ble_eq_true rfl) (Nat.le_of_ble_eq_true rfl) ⟨rfl, rfl⟩
set_option maxRecDepth 20000 in
set_option maxHeartbeats 4000000 in
theorem c_Wl_put (l : Launch) (G : GG) {g : GH} {wa tw sa ts la tl ra cap : Nat} {ps : List (Nat × Nat)} {rt rb ru rcap fr len : Nat} {ys : List Nat} (h : Wl G g wa tw sa ts la tl ra cap ps) (hts : ts ≠ tl) (hr : Lt G g ra rt rb ru rcap ys) (hv : ∀ p ∈ ps, p.1 + p.2 ≤ ys.length) (hf : fr + len ≤ ys.length) (hs : srtL (wls ys ps)) (hcap : ps.length < cap) : gMet l G y_Wl_put b_Wl_put 8 none (rmk 1 0 0 64) [.ref wa, .int (nI fr), .int (nI len)] g (fun v g' => v = none ∧ Wl G g' wa tw sa ts la tl ra cap (if (ys.drop fr).take len ∈ wls ys ps then ps else insA ps (rnkL ((ys.drop fr).take len) (wls ys ps)) (fr, len)) ∧ gh_N [wa, sa, la] g g') := by
  refine gMet.of [some (.ref wa), some (.int (nI fr)), some (.int (nI len)), none, none, none, none, none] (by decide +kernel) rfl (Nat.le_of_ble_eq_true rfl) rfl (fun X hK hI hE => ?_)
  obtain ⟨f1, f2, k1, k2, k3, k4, k5, k6⟩ := h
  obtain ⟨b1, b2⟩ := hr.len
  have n1 : wa ≠ sa := fun z => by rw [z, k2] at k1; cases k1
  have n2 : wa ≠ la := fun z => by rw [z, k3] at k1; cases k1
  have n3 : sa ≠ la := gh_ne k2 k3 hts
  have hwl : (wls ys ps).length = ps.length := List.length_map ..
  have hrk := rnkL_le ((ys.drop fr).take len) (wls ys ps)
  rw [hwl] at hrk
  generalize hw : (ys.drop fr).take len = w at hrk hE ⊢
  have wat : ∀ (i : Nat) (p : Nat × Nat), ps[i]? = some p → (wls ys ps)[i]? = some ((ys.drop p.1).take p.2) := fun i p hp => by unfold wls; rw [List.getElem?_map, hp]; rfl
  have fin : ∀ (r : Nat) (o4 o5 o6 o7 : Option Value), r = rnkL w (wls ys ps) → w ∉ wls ys ps → gh_W l G (rmk 1 0 0 64) X g 0 0 [some (.ref wa), some (.int (nI fr)), some (.int (nI len)), some (.int (nI r)), o4, o5, o6, o7] 90 [] := by
    intro r o4 o5 o6 o7 hr0 hnm
    have hrn : r ≤ ps.length := by omega
    refine gh_aload_n hK d_Wl_put_90 rfl ?_
    refine gh_get hK d_Wl_put_91 in_Wl rfl k1 3 (by decide) kf_Wl_28 rfl rfl ?_
    refine gh_aload_n hK d_Wl_put_94 rfl ?_
    refine gh_get hK d_Wl_put_95 in_Wl rfl k1 1 (by decide) kf_Wl_21 rfl rfl ?_
    refine gh_alen (v := nI cap) hK d_Wl_put_98 k2 (t0 := 1) rfl rfl ?_
    refine gh_icmp_ltN hK d_Wl_put_99 (tgt := 103) (by decide) (by omega) (by omega) (fun z => ?_) (fun z => absurd z (by omega))
    refine gh_aload_n hK d_Wl_put_103 rfl ?_
    refine gh_get hK d_Wl_put_104 in_Wl rfl k1 1 (by decide) kf_Wl_21 rfl rfl ?_
    refine gh_iload_n hK d_Wl_put_107 rfl ?_
    refine gh_aload_n hK d_Wl_put_108 rfl ?_
    refine gh_get hK d_Wl_put_109 in_Wl rfl k1 1 (by decide) kf_Wl_21 rfl rfl ?_
    refine gh_iload_n hK d_Wl_put_112 rfl ?_
    refine gh_iconst (v := nI 1) hK d_Wl_put_113 (by decide) ?_
    refine gh_addN hK d_Wl_put_114 ?_
    refine gh_aload_n hK d_Wl_put_115 rfl ?_
    refine gh_get hK d_Wl_put_116 in_Wl rfl k1 3 (by decide) kf_Wl_28 rfl rfl ?_
    refine gh_iload_n hK d_Wl_put_119 rfl ?_
    refine gh_subN hK d_Wl_put_120 (by omega) ?_
    refine gh_copyi hK d_Wl_put_121 km_Wl_38 k2 (t0 := 1) rfl (by omega) (by omega) (by omega) rfl (Nat.le_of_ble_eq_true rfl) (Nat.le_of_ble_eq_true rfl) ?_
    have j1 : gh_up g sa ts (.inl (G.2.1 1, cap, .inl (va_cpy f1 f1 r (r + 1) (ps.length - r)))) wa = some (tw, .inr (9, [.ref ra, .ref sa, .ref la, .int (nI ps.length)])) := by rw [gh_un n1]; exact k1
    have j3 : gh_up g sa ts (.inl (G.2.1 1, cap, .inl (va_cpy f1 f1 r (r + 1) (ps.length - r)))) la = some (tl, .inl (G.2.1 1, cap, .inl f2)) := by rw [gh_un n3.symm]; exact k3
    refine gh_aload_n hK d_Wl_put_124 rfl ?_
    refine gh_get hK d_Wl_put_125 in_Wl rfl j1 2 (by decide) kf_Wl_25 rfl rfl ?_
    refine gh_iload_n hK d_Wl_put_128 rfl ?_
    refine gh_aload_n hK d_Wl_put_129 rfl ?_
    refine gh_get hK d_Wl_put_130 in_Wl rfl j1 2 (by decide) kf_Wl_25 rfl rfl ?_
    refine gh_iload_n hK d_Wl_put_133 rfl ?_
    refine gh_iconst (v := nI 1) hK d_Wl_put_134 (by decide) ?_
    refine gh_addN hK d_Wl_put_135 ?_
    refine gh_aload_n hK d_Wl_put_136 rfl ?_
    refine gh_get hK d_Wl_put_137 in_Wl rfl j1 3 (by decide) kf_Wl_28 rfl rfl ?_
    refine gh_iload_n hK d_Wl_put_140 rfl ?_
    refine gh_subN hK d_Wl_put_141 (by omega) ?_
    refine gh_copyi hK d_Wl_put_142 km_Wl_38 j3 (t0 := 1) rfl (by omega) (by omega) (by omega) rfl (Nat.le_of_ble_eq_true rfl) (Nat.le_of_ble_eq_true rfl) ?_
    have hN1 : gh_N [wa, sa, la] g (gh_up (gh_up g sa ts (.inl (G.2.1 1, cap, .inl (va_cpy f1 f1 r (r + 1) (ps.length - r))))) la tl (.inl (G.2.1 1, cap, .inl (va_cpy f2 f2 r (r + 1) (ps.length - r))))) := (gh_N.up (by simp)).tr (gh_N.up (by simp))
    generalize hg1 : gh_up (gh_up g sa ts (.inl (G.2.1 1, cap, .inl (va_cpy f1 f1 r (r + 1) (ps.length - r))))) la tl (.inl (G.2.1 1, cap, .inl (va_cpy f2 f2 r (r + 1) (ps.length - r)))) = g1 at hN1 ⊢
    have i1 : g1 wa = some (tw, .inr (9, [.ref ra, .ref sa, .ref la, .int (nI ps.length)])) := by rw [← hg1, gh_un n2]; exact j1
    have i2 : g1 sa = some (ts, .inl (G.2.1 1, cap, .inl (va_cpy f1 f1 r (r + 1) (ps.length - r)))) := by rw [← hg1, gh_un n3, gh_us]
    have i3 : g1 la = some (tl, .inl (G.2.1 1, cap, .inl (va_cpy f2 f2 r (r + 1) (ps.length - r)))) := by rw [← hg1, gh_us]
    refine gh_aload_n hK d_Wl_put_145 rfl ?_
    refine gh_get hK d_Wl_put_146 in_Wl rfl i1 1 (by decide) kf_Wl_21 rfl rfl ?_
    refine gh_iload_n hK d_Wl_put_149 rfl ?_
    refine gh_iload_n hK d_Wl_put_150 rfl ?_
    refine gh_iastN hK d_Wl_put_151 i2 (t0 := 1) rfl (by omega) (by omega) ?_
    have hN2 : gh_N [wa, sa, la] g (gh_up g1 sa ts (.inl (G.2.1 1, cap, .inl (upd (va_cpy f1 f1 r (r + 1) (ps.length - r)) r (nI fr))))) := hN1.tr (gh_N.up (by simp))
    generalize hg2 : gh_up g1 sa ts (.inl (G.2.1 1, cap, .inl (upd (va_cpy f1 f1 r (r + 1) (ps.length - r)) r (nI fr)))) = g2 at hN2 ⊢
    have u1 : g2 wa = some (tw, .inr (9, [.ref ra, .ref sa, .ref la, .int (nI ps.length)])) := by rw [← hg2, gh_un n1]; exact i1
    have u2 : g2 sa = some (ts, .inl (G.2.1 1, cap, .inl (upd (va_cpy f1 f1 r (r + 1) (ps.length - r)) r (nI fr)))) := by rw [← hg2, gh_us]
    have u3 : g2 la = some (tl, .inl (G.2.1 1, cap, .inl (va_cpy f2 f2 r (r + 1) (ps.length - r)))) := by rw [← hg2, gh_un n3.symm]; exact i3
    refine gh_aload_n hK d_Wl_put_152 rfl ?_
    refine gh_get hK d_Wl_put_153 in_Wl rfl u1 2 (by decide) kf_Wl_25 rfl rfl ?_
    refine gh_iload_n hK d_Wl_put_156 rfl ?_
    refine gh_iload_n hK d_Wl_put_157 rfl ?_
    refine gh_iastN hK d_Wl_put_158 u3 (t0 := 1) rfl (by omega) (by omega) ?_
    have hN3 : gh_N [wa, sa, la] g (gh_up g2 la tl (.inl (G.2.1 1, cap, .inl (upd (va_cpy f2 f2 r (r + 1) (ps.length - r)) r (nI len))))) := hN2.tr (gh_N.up (by simp))
    generalize hg3 : gh_up g2 la tl (.inl (G.2.1 1, cap, .inl (upd (va_cpy f2 f2 r (r + 1) (ps.length - r)) r (nI len)))) = g3 at hN3 ⊢
    have v1 : g3 wa = some (tw, .inr (9, [.ref ra, .ref sa, .ref la, .int (nI ps.length)])) := by rw [← hg3, gh_un n2]; exact u1
    have v2 : g3 sa = some (ts, .inl (G.2.1 1, cap, .inl (upd (va_cpy f1 f1 r (r + 1) (ps.length - r)) r (nI fr)))) := by rw [← hg3, gh_un n3]; exact u2
    have v3 : g3 la = some (tl, .inl (G.2.1 1, cap, .inl (upd (va_cpy f2 f2 r (r + 1) (ps.length - r)) r (nI len)))) := by rw [← hg3, gh_us]
    refine gh_aload_n hK d_Wl_put_159 rfl ?_
    refine gh_dup hK d_Wl_put_160 rfl ?_
    refine gh_get hK d_Wl_put_161 in_Wl rfl v1 3 (by decide) kf_Wl_28 rfl rfl ?_
    refine gh_iconst (v := nI 1) hK d_Wl_put_164 (by decide) ?_
    refine gh_addN hK d_Wl_put_165 ?_
    refine gh_put hK d_Wl_put_166 in_Wl t_Wl ty_Wl nm_Wl rfl v1 3 (by decide) kf_Wl_28 rfl rfl rfl rfl (Nat.le_of_ble_eq_true rfl) rfl ?_
    refine gh_vret hK hE d_Wl_put_169 (Nat.le_of_ble_eq_true rfl) (Nat.le_of_ble_eq_true rfl) ⟨rfl, ?_, hN3.tr (gh_N.up (by simp))⟩
    rw [if_neg hnm, ← hr0]
    refine ⟨_, _, by rw [insA_len hrn]; exact gh_us, by rw [gh_un n1.symm]; exact v2, by rw [gh_un n2.symm]; exact v3, by rw [insA_len hrn]; omega, k5, fun i p hp => ?_⟩
    have hil := (List.getElem?_eq_some_iff.mp hp).1
    rw [insA_len hrn] at hil
    rcases Nat.lt_trichotomy i r with q | q | q
    · rw [insA_lt hrn q] at hp
      rw [pk_un (by omega), pk_un (by omega), pk_cpy_out (by omega), pk_cpy_out (by omega)]
      exact k6 i p hp
    · rw [q, insA_eq hrn] at hp
      cases hp
      rw [q, pk_us, pk_us]
      exact ⟨rfl, rfl⟩
    · rw [insA_gt hrn q] at hp
      rw [pk_un (by omega), pk_un (by omega), pk_cpy_in (by omega) (by omega), pk_cpy_in (by omega) (by omega), show r + (i - (r + 1)) = i - 1 by omega]
      exact k6 (i - 1) p hp
  have loop : ∀ (m i lo hi : Nat) (o6 o7 : Option Value), i + m = 32 → hi - lo < 2 ^ m → lo ≤ rnkL w (wls ys ps) → rnkL w (wls ys ps) ≤ hi → hi ≤ ps.length → (∀ a, (wls ys ps)[hi]? = some a → 0 < cmpL a w) → gh_W l G (rmk 1 0 0 64) X g 0 0 [some (.ref wa), some (.int (nI fr)), some (.int (nI len)), some (.int (nI lo)), some (.int (nI hi)), some (.int (nI i)), o6, o7] 11 [] := by
    have out : ∀ (lo hi i : Nat) (o6 o7 : Option Value), hi ≤ lo → lo ≤ rnkL w (wls ys ps) → rnkL w (wls ys ps) ≤ hi → (∀ a, (wls ys ps)[hi]? = some a → 0 < cmpL a w) → gh_W l G (rmk 1 0 0 64) X g 0 0 [some (.ref wa), some (.int (nI fr)), some (.int (nI len)), some (.int (nI lo)), some (.int (nI hi)), some (.int (nI i)), o6, o7] 90 [] := by
      intro lo hi i o6 o7 h1 h2 h3 h4
      refine fin lo _ _ o6 o7 (by omega) (fun q => ?_)
      have q1 := (rnkL_mem w hs).mp q
      rw [show rnkL w (wls ys ps) = hi by omega] at q1
      have q2 := h4 w q1
      rw [cmpL_self] at q2
      omega
    intro m
    induction m with
    | zero =>
      intro i lo hi o6 o7 hi0 hm h1 h2 h3 h4
      refine gh_iload hK d_Wl_put_11 rfl ?_
      refine gh_bipush (v := nI 32) hK d_Wl_put_13 (by decide) ?_
      refine gh_icmp_geN hK d_Wl_put_15 (tgt := 90) (by decide) (by omega) (by decide) (fun z => ?_) (fun z => absurd z (by omega))
      exact out lo hi i o6 o7 (by simp at hm; omega) h1 h2 h4
    | succ m ih =>
      intro i lo hi o6 o7 hi0 hm h1 h2 h3 h4
      rw [Nat.pow_succ] at hm
      refine gh_iload hK d_Wl_put_11 rfl ?_
      refine gh_bipush (v := nI 32) hK d_Wl_put_13 (by decide) ?_
      refine gh_icmp_geN hK d_Wl_put_15 (tgt := 90) (by decide) (by omega) (by decide) (fun z => absurd z (by omega)) (fun z => ?_)
      refine gh_iload_n hK d_Wl_put_18 rfl ?_
      refine gh_iload hK d_Wl_put_19 rfl ?_
      refine gh_icmp_geN hK d_Wl_put_21 (tgt := 90) (by decide) (by omega) (by omega) (fun z2 => ?_) (fun z2 => ?_)
      · exact out lo hi i o6 o7 z2 h1 h2 h4
      · refine gh_iload_n hK d_Wl_put_24 rfl ?_
        refine gh_iload hK d_Wl_put_25 rfl ?_
        refine gh_addN hK d_Wl_put_27 ?_
        refine gh_iconst (v := nI 2) hK d_Wl_put_28 (by decide) ?_
        refine gh_divN hK d_Wl_put_29 (by omega) (by omega) (by omega) ?_
        have hmd : (lo + hi) / 2 < hi := by omega
        have hmd2 : lo ≤ (lo + hi) / 2 := by omega
        have hmd3 : (lo + hi) / 2 - lo < 2 ^ m := by omega
        have hmd4 : hi - ((lo + hi) / 2 + 1) < 2 ^ m := by omega
        obtain ⟨p, hp⟩ : ∃ p, ps[(lo + hi) / 2]? = some p := ⟨_, List.getElem?_eq_getElem (by omega)⟩
        have hwm := wat _ _ hp
        have hpv := hv p (List.mem_of_getElem? hp)
        generalize (lo + hi) / 2 = md at hmd hmd2 hmd3 hmd4 hp hwm ⊢
        refine gh_istore (lv' := [some (.ref wa), some (.int (nI fr)), some (.int (nI len)), some (.int (nI lo)), some (.int (nI hi)), some (.int (nI i)), some (.int (nI md)), o7]) hK d_Wl_put_30 (Nat.le_of_ble_eq_true rfl) rfl ?_
        refine gh_aload_n hK d_Wl_put_32 rfl ?_
        refine gh_get hK d_Wl_put_33 in_Wl rfl k1 0 (by decide) kf_Wl_9 rfl rfl ?_
        refine gh_aload_n hK d_Wl_put_36 rfl ?_
        refine gh_get hK d_Wl_put_37 in_Wl rfl k1 1 (by decide) kf_Wl_21 rfl rfl ?_
        refine gh_iload hK d_Wl_put_40 rfl ?_
        refine gh_ialdN (j := md) hK d_Wl_put_42 k2 (t0 := 1) rfl (by omega) (by omega) ?_
        rw [(k6 md p hp).1]
        refine gh_aload_n hK d_Wl_put_43 rfl ?_
        refine gh_get hK d_Wl_put_44 in_Wl rfl k1 2 (by decide) kf_Wl_25 rfl rfl ?_
        refine gh_iload hK d_Wl_put_47 rfl ?_
        refine gh_ialdN (j := md) hK d_Wl_put_49 k3 (t0 := 1) rfl (by omega) (by omega) ?_
        rw [(k6 md p hp).2]
        refine gh_aload_n hK d_Wl_put_50 rfl ?_
        refine gh_get hK d_Wl_put_51 in_Wl rfl k1 0 (by decide) kf_Wl_9 rfl rfl ?_
        refine gh_iload_n hK d_Wl_put_54 rfl ?_
        refine gh_iload_n hK d_Wl_put_55 rfl ?_
        refine gh_callV (rest := []) [.int (nI p.1), .int (nI p.2), .ref ra, .int (nI fr), .int (nI len)] hK (c_Lt_compare l G hr hr (fr := p.1) (len := p.2) (of := fr) (ol := len) hpv hf) Y_Lt_compare V_Lt_compare km_Wl_32 hr.ob rfl rfl d_Wl_put_56 rfl rfl (Nat.le_of_ble_eq_true rfl) ⟨(Nat.le_of_ble_eq_true rfl), (Nat.le_of_ble_eq_true rfl)⟩ ⟨(Nat.le_of_ble_eq_true rfl), (Nat.le_of_ble_eq_true rfl)⟩ (fun v g' hp => ?_)
        obtain ⟨r, rfl, hr1, hg⟩ := hp
        rw [hg]
        show gh_W l G _ X g _ _ [some (.ref wa), some (.int (nI fr)), some (.int (nI len)), some (.int (nI lo)), some (.int (nI hi)), some (.int (nI i)), some (.int (nI md)), o7] 59 [.int r]
        rw [hw] at hr1
        refine gh_istore (lv' := [some (.ref wa), some (.int (nI fr)), some (.int (nI len)), some (.int (nI lo)), some (.int (nI hi)), some (.int (nI i)), some (.int (nI md)), some (.int r)]) hK d_Wl_put_59 (Nat.le_of_ble_eq_true rfl) rfl ?_
        refine gh_iload hK d_Wl_put_61 rfl ?_
        refine gh_if_neI hK d_Wl_put_63 (tgt := 67) (by decide) hr1 (fun z3 => ?_) (fun z3 => ?_)
        · refine gh_iload hK d_Wl_put_67 rfl ?_
          refine gh_if_geI hK d_Wl_put_69 (tgt := 80) (by decide) hr1 (fun z4 => ?_) (fun z4 => ?_)
          · refine gh_iload hK d_Wl_put_80 rfl ?_
            refine gh_istore (lv' := [some (.ref wa), some (.int (nI fr)), some (.int (nI len)), some (.int (nI lo)), some (.int (nI md)), some (.int (nI i)), some (.int (nI md)), some (.int r)]) hK d_Wl_put_82 (Nat.le_of_ble_eq_true rfl) rfl ?_
            refine gh_incN (lv' := [some (.ref wa), some (.int (nI fr)), some (.int (nI len)), some (.int (nI lo)), some (.int (nI md)), some (.int (nI (i + 1))), some (.int (nI md)), some (.int r)]) hK d_Wl_put_84 rfl rfl ?_
            refine gh_goto (tgt := 11) hK d_Wl_put_87 (by decide) ?_
            refine ih (i + 1) lo md _ _ (by omega) (by omega) h1 ?_ (by omega) (fun a ha => ?_)
            · rcases Nat.lt_or_ge md (rnkL w (wls ys ps)) with q | q
              · have := rnkL_lt w hwm q; omega
              · exact q
            · rw [hwm] at ha
              cases ha
              omega
          · refine gh_iload hK d_Wl_put_72 rfl ?_
            refine gh_iconst (v := nI 1) hK d_Wl_put_74 (by decide) ?_
            refine gh_addN hK d_Wl_put_75 ?_
            refine gh_istore_n (lv' := [some (.ref wa), some (.int (nI fr)), some (.int (nI len)), some (.int (nI (md + 1))), some (.int (nI hi)), some (.int (nI i)), some (.int (nI md)), some (.int r)]) hK d_Wl_put_76 (Nat.le_of_ble_eq_true rfl) rfl ?_
            refine gh_goto (tgt := 84) hK d_Wl_put_77 (by decide) ?_
            refine gh_incN (lv' := [some (.ref wa), some (.int (nI fr)), some (.int (nI len)), some (.int (nI (md + 1))), some (.int (nI hi)), some (.int (nI (i + 1))), some (.int (nI md)), some (.int r)]) hK d_Wl_put_84 rfl rfl ?_
            refine gh_goto (tgt := 11) hK d_Wl_put_87 (by decide) ?_
            exact ih (i + 1) (md + 1) hi _ _ (by omega) (by omega) ((rnkL_at w hs hwm).mp z4) h2 h3 h4
        · refine gh_vret hK hE d_Wl_put_66 (Nat.le_of_ble_eq_true rfl) (Nat.le_of_ble_eq_true rfl) ⟨rfl, ?_, gh_N.rf⟩
          rw [if_pos (by rw [← (cmpL_zero _ _).mp z3]; exact List.mem_of_getElem? hwm)]
          exact ⟨f1, f2, k1, k2, k3, k4, k5, k6⟩
  refine gh_iconst (v := nI 0) hK d_Wl_put_0 (by decide) ?_
  refine gh_istore_n (lv' := [some (.ref wa), some (.int (nI fr)), some (.int (nI len)), some (.int (nI 0)), none, none, none, none]) hK d_Wl_put_1 (Nat.le_of_ble_eq_true rfl) rfl ?_
  refine gh_aload_n hK d_Wl_put_2 rfl ?_
  refine gh_get hK d_Wl_put_3 in_Wl rfl k1 3 (by decide) kf_Wl_28 rfl rfl ?_
  refine gh_istore (lv' := [some (.ref wa), some (.int (nI fr)), some (.int (nI len)), some (.int (nI 0)), some (.int (nI ps.length)), none, none, none]) hK d_Wl_put_6 (Nat.le_of_ble_eq_true rfl) rfl ?_
  refine gh_iconst (v := nI 0) hK d_Wl_put_8 (by decide) ?_
  refine gh_istore (lv' := [some (.ref wa), some (.int (nI fr)), some (.int (nI len)), some (.int (nI 0)), some (.int (nI ps.length)), some (.int (nI 0)), none, none]) hK d_Wl_put_9 (Nat.le_of_ble_eq_true rfl) rfl ?_
  exact loop 32 0 0 ps.length none none (by omega) (by omega) (Nat.zero_le _) hrk (Nat.le_refl _) (fun a ha => by
    have := (List.getElem?_eq_some_iff.mp ha).1
    omega)
end
section
/-! THE DICTIONARY: entries (address, word, flags) in order -/
def dws (es : List (Nat × List Nat × Nat)) : List (List Nat) := es.map fun x => x.2.1
def Dc (G : GG) (g : GH) (da aa : Nat) (es : List (Nat × List Nat × Nat)) : Prop := g da = some (7, .inr (1, [.ref aa])) ∧ Al G g aa 8 9 (es.map fun x => x.1) ∧ ∀ x, x ∈ es → En G g x.1 x.2.1 x.2.2
theorem Dc.M {G : GG} {g g' : GH} {da aa : Nat} {es : List (Nat × List Nat × Nat)} {S : List Nat} (h : Dc G g da aa es) (hM : gh_M S g g') (h1 : ∀ t, t ∈ [7, 8, 9, 50, 51, 52] → t ∉ S) : Dc G g' da aa es := ⟨hM da 7 _ h.1 (h1 7 (by decide)), h.2.1.M hM (h1 8 (by decide)) (h1 9 (by decide)), fun x hx => (h.2.2 x hx).M hM (h1 50 (by decide)) (h1 51 (by decide)) (h1 52 (by decide))⟩
theorem Dc.T {G : GG} {g : GH} {da aa : Nat} {es : List (Nat × List Nat × Nat)} (h : Dc G g da aa es) : AlT g 2 50 (es.map fun x => x.1) := fun r hr => by
  obtain ⟨x, hx, rfl⟩ := List.mem_map.mp hr
  obtain ⟨wa, wb, k1, -⟩ := h.2.2 x hx
  exact ⟨_, k1⟩
theorem Dc.len {G : GG} {g : GH} {da aa : Nat} {es : List (Nat × List Nat × Nat)} (h : Dc G g da aa es) : es.length ≤ 450 := by
  have := h.2.1.len
  rwa [List.length_map] at this
theorem map_erI {α β : Type} (f : α → β) (l : List α) (j : Nat) : (l.eraseIdx j).map f = (l.map f).eraseIdx j := by rw [List.eraseIdx_eq_take_drop_succ, List.eraseIdx_eq_take_drop_succ, List.map_append, List.map_take, List.map_drop]
theorem dws_at {es : List (Nat × List Nat × Nat)} {i : Nat} {x : Nat × List Nat × Nat} (h : es[i]? = some x) : (dws es)[i]? = some x.2.1 := by unfold dws; rw [List.getElem?_map, h]; rfl
theorem dad_at {es : List (Nat × List Nat × Nat)} {i : Nat} {x : Nat × List Nat × Nat} (h : es[i]? = some x) : (es.map fun x => x.1)[i]? = some x.1 := by rw [List.getElem?_map, h]; rfl
set_option maxRecDepth 20000 in
set_option maxHeartbeats 4000000 in
theorem c_Dc_count (l : Launch) (G : GG) {g : GH} {da aa : Nat} {es : List (Nat × List Nat × Nat)} (h : Dc G g da aa es) : gMet l G y_Dc_count b_Dc_count 1 (some .int) (rmk 1 0 0 20) [.ref da] g (fun v g' => v = some (.int (nI es.length)) ∧ g' = g) := by
  refine gMet.of [some (.ref da)] (by decide +kernel) rfl (Nat.le_of_ble_eq_true rfl) rfl (fun X hK hI hE => ?_)
  obtain ⟨k0, k1⟩ := h.2.1.ob
  refine gh_aload_n hK d_Dc_count_0 rfl ?_
  refine gh_get hK d_Dc_count_1 in_Dc rfl h.1 0 (by decide) kf_Dc_12 rfl rfl ?_
  refine gh_callV (rest := []) [] hK (c_AL_size l G h.2.1) Y_AL_size V_AL_size km_Dc_18 k1 rfl rfl d_Dc_count_4 rfl rfl (Nat.le_of_ble_eq_true rfl) ⟨(Nat.le_of_ble_eq_true rfl), (Nat.le_of_ble_eq_true rfl)⟩ ⟨(Nat.le_of_ble_eq_true rfl), (Nat.le_of_ble_eq_true rfl)⟩ (fun v g' hp => ?_)
  rw [hp.1, hp.2]
  show gh_W l G _ X g _ _ [some (.ref da)] 7 [.int (nI ((es.map fun x => x.1).length))]
  rw [List.length_map]
  exact gh_iret hK hE d_Dc_count_7 (Nat.le_of_ble_eq_true rfl) (Nat.le_of_ble_eq_true rfl) ⟨rfl, rfl⟩
set_option maxRecDepth 20000 in
set_option maxHeartbeats 4000000 in
theorem c_Dc_clear (l : Launch) (G : GG) {g : GH} {da aa : Nat} {es : List (Nat × List Nat × Nat)} (h : Dc G g da aa es) : gMet l G y_Dc_clear b_Dc_clear 1 none (rmk 1 0 0 23) [.ref da] g (fun v g' => v = none ∧ Dc G g' da aa [] ∧ gh_M [8, 9] g g') := by
  refine gMet.of [some (.ref da)] (by decide +kernel) rfl (Nat.le_of_ble_eq_true rfl) rfl (fun X hK hI hE => ?_)
  obtain ⟨k0, k1⟩ := h.2.1.ob
  refine gh_aload_n hK d_Dc_clear_0 rfl ?_
  refine gh_get hK d_Dc_clear_1 in_Dc rfl h.1 0 (by decide) kf_Dc_12 rfl rfl ?_
  refine gh_callV (rest := []) [] hK (c_AL_clear l G h.2.1) Y_AL_clear V_AL_clear km_Dc_22 k1 rfl rfl d_Dc_clear_4 rfl rfl (Nat.le_of_ble_eq_true rfl) ⟨(Nat.le_of_ble_eq_true rfl), (Nat.le_of_ble_eq_true rfl)⟩ ⟨(Nat.le_of_ble_eq_true rfl), (Nat.le_of_ble_eq_true rfl)⟩ (fun v g1 hp => ?_)
  obtain ⟨rfl, hp1, hp2⟩ := hp
  show gh_W l G _ X g1 _ _ [some (.ref da)] 7 []
  exact gh_vret hK hE d_Dc_clear_7 (Nat.le_of_ble_eq_true rfl) (Nat.le_of_ble_eq_true rfl) ⟨rfl, ⟨hp2 da 7 _ h.1 (by decide), hp1, fun x hx => absurd hx List.not_mem_nil⟩, hp2⟩
set_option maxRecDepth 20000 in
set_option maxHeartbeats 4000000 in
theorem c_Dc_at (l : Launch) (G : GG) {g : GH} {da aa : Nat} {es : List (Nat × List Nat × Nat)} {j : Nat} (h : Dc G g da aa es) (hj : j < 2 ^ 31) : gMet l G y_Dc_at1 b_Dc_at1 2 (some (.object "SpellDesk$Entry")) (rmk 3 0 0 64) [.ref da, .int (nI j)] g (fun v g' => (∀ x, es[j]? = some x → v = some (.ref x.1)) ∧ (es[j]? = none → v = some .null) ∧ g' = g) := by
  refine gMet.of [some (.ref da), some (.int (nI j))] (by decide +kernel) rfl (Nat.le_of_ble_eq_true rfl) rfl (fun X hK hI hE => ?_)
  have hlen := h.len
  obtain ⟨k0, k1⟩ := h.2.1.ob
  refine gh_iload_n hK d_Dc_at1_0 rfl ?_
  refine gh_if_ltN hK d_Dc_at1_1 (tgt := 29) (by decide) hj ?_
  refine gh_iload_n hK d_Dc_at1_4 rfl ?_
  refine gh_aload_n hK d_Dc_at1_5 rfl ?_
  refine gh_get hK d_Dc_at1_6 in_Dc rfl h.1 0 (by decide) kf_Dc_12 rfl rfl ?_
  refine gh_callV (rest := [.int (nI j)]) [] hK (c_AL_size l G h.2.1) Y_AL_size V_AL_size km_Dc_18 k1 rfl rfl d_Dc_at1_9 rfl rfl (Nat.le_of_ble_eq_true rfl) ⟨(Nat.le_of_ble_eq_true rfl), (Nat.le_of_ble_eq_true rfl)⟩ ⟨(Nat.le_of_ble_eq_true rfl), (Nat.le_of_ble_eq_true rfl)⟩ (fun v g' hp => ?_)
  rw [hp.1, hp.2]
  show gh_W l G _ X g _ _ [some (.ref da), some (.int (nI j))] 12 [.int (nI ((es.map fun x => x.1).length)), .int (nI j)]
  rw [List.length_map]
  refine gh_icmp_geN hK d_Dc_at1_12 (tgt := 29) (by decide) hj (by omega) (fun z => ?_) (fun z => ?_)
  · refine gh_null hK d_Dc_at1_29 ?_
    exact gh_aret (Or.inl ⟨_, rfl⟩) (Or.inl rfl) hK hE d_Dc_at1_30 (Nat.le_of_ble_eq_true rfl) (Nat.le_of_ble_eq_true rfl) ⟨fun x hx => absurd (List.getElem?_eq_some_iff.mp hx).1 (by omega), fun _ => rfl, rfl⟩
  · obtain ⟨x, hx⟩ : ∃ x, es[j]? = some x := ⟨_, List.getElem?_eq_getElem z⟩
    obtain ⟨wa, wb, e1, -⟩ := h.2.2 x (List.mem_of_getElem? hx)
    refine gh_aload_n hK d_Dc_at1_15 rfl ?_
    refine gh_get hK d_Dc_at1_16 in_Dc rfl h.1 0 (by decide) kf_Dc_12 rfl rfl ?_
    refine gh_iload_n hK d_Dc_at1_19 rfl ?_
    refine gh_callV (rest := []) [.int (nI j)] hK (c_AL_get l G h.2.1 (dad_at hx)) Y_AL_get V_AL_get km_Dc_25 k1 rfl rfl d_Dc_at1_20 rfl rfl (Nat.le_of_ble_eq_true rfl) ⟨(Nat.le_of_ble_eq_true rfl), (Nat.le_of_ble_eq_true rfl)⟩ ⟨(Nat.le_of_ble_eq_true rfl), (Nat.le_of_ble_eq_true rfl)⟩ (fun v g' hp => ?_)
    rw [hp.1, hp.2]
    show gh_W l G _ X g _ _ [some (.ref da), some (.int (nI j))] 23 [.ref x.1]
    refine gh_cast0 hK d_Dc_at1_23 kc_Dc_29 e1 rfl ?_
    refine gh_goto (tgt := 30) hK d_Dc_at1_26 (by decide) ?_
    exact gh_aret (Or.inl ⟨_, rfl⟩) (Or.inr ⟨_, rfl⟩) hK hE d_Dc_at1_30 (Nat.le_of_ble_eq_true rfl) (Nat.le_of_ble_eq_true rfl) ⟨fun y hy => (by rw [hx] at hy; cases hy; rfl), fun hn => (by rw [hx] at hn; cases hn), rfl⟩
set_option maxRecDepth 20000 in
set_option maxHeartbeats 4000000 in
theorem c_Dc_rankOf (l : Launch) (G : GG) {g : GH} {da aa : Nat} {es : List (Nat × List Nat × Nat)} {ra rt rb ru rcap fr len : Nat} {ys : List Nat} (h : Dc G g da aa es) (hs : srtL (dws es)) (hr : Lt G g ra rt rb ru rcap ys) (hf : fr + len ≤ ys.length) : gMet l G y_Dc_rankOf b_Dc_rankOf 9 (some .int) (rmk 3 0 0 64) [.ref da, .ref ra, .int (nI fr), .int (nI len)] g (fun v g' => v = some (.int (nI (rnkL ((ys.drop fr).take len) (dws es)))) ∧ g' = g) := by
  refine gMet.of [some (.ref da), some (.ref ra), some (.int (nI fr)), some (.int (nI len)), none, none, none, none, none] (by decide +kernel) rfl (Nat.le_of_ble_eq_true rfl) rfl (fun X hK hI hE => ?_)
  have hlen := h.len
  obtain ⟨k0, k1⟩ := h.2.1.ob
  have hwl : (dws es).length = es.length := List.length_map ..
  have hrk := rnkL_le ((ys.drop fr).take len) (dws es)
  rw [hwl] at hrk
  generalize hw : (ys.drop fr).take len = w at hrk hE ⊢
  have loop : ∀ (m i lo hi : Nat) (o7 o8 : Option Value), i + m = 32 → hi - lo < 2 ^ m → lo ≤ rnkL w (dws es) → rnkL w (dws es) ≤ hi → hi ≤ es.length → gh_W l G (rmk 3 0 0 64) X g 0 0 [some (.ref da), some (.ref ra), some (.int (nI fr)), some (.int (nI len)), some (.int (nI lo)), some (.int (nI hi)), some (.int (nI i)), o7, o8] 15 [] := by
    have out : ∀ (lo hi i : Nat) (o7 o8 : Option Value), hi ≤ lo → lo ≤ rnkL w (dws es) → rnkL w (dws es) ≤ hi → gh_W l G (rmk 3 0 0 64) X g 0 0 [some (.ref da), some (.ref ra), some (.int (nI fr)), some (.int (nI len)), some (.int (nI lo)), some (.int (nI hi)), some (.int (nI i)), o7, o8] 91 [] := by
      intro lo hi i o7 o8 h1 h2 h3
      obtain rfl : lo = rnkL w (dws es) := by omega
      refine gh_iload hK d_Dc_rankOf_91 rfl ?_
      exact gh_iret hK hE d_Dc_rankOf_93 (Nat.le_of_ble_eq_true rfl) (Nat.le_of_ble_eq_true rfl) ⟨rfl, rfl⟩
    intro m
    induction m with
    | zero =>
      intro i lo hi o7 o8 hi0 hm h1 h2 h3
      refine gh_iload hK d_Dc_rankOf_15 rfl ?_
      refine gh_bipush (v := nI 32) hK d_Dc_rankOf_17 (by decide) ?_
      refine gh_icmp_geN hK d_Dc_rankOf_19 (tgt := 91) (by decide) (by omega) (by decide) (fun z => ?_) (fun z => absurd z (by omega))
      exact out lo hi i o7 o8 (by simp at hm; omega) h1 h2
    | succ m ih =>
      intro i lo hi o7 o8 hi0 hm h1 h2 h3
      rw [Nat.pow_succ] at hm
      refine gh_iload hK d_Dc_rankOf_15 rfl ?_
      refine gh_bipush (v := nI 32) hK d_Dc_rankOf_17 (by decide) ?_
      refine gh_icmp_geN hK d_Dc_rankOf_19 (tgt := 91) (by decide) (by omega) (by decide) (fun z => absurd z (by omega)) (fun z => ?_)
      refine gh_iload hK d_Dc_rankOf_22 rfl ?_
      refine gh_iload hK d_Dc_rankOf_24 rfl ?_
      refine gh_icmp_geN hK d_Dc_rankOf_26 (tgt := 91) (by decide) (by omega) (by omega) (fun z2 => ?_) (fun z2 => ?_)
      · exact out lo hi i o7 o8 z2 h1 h2
      · refine gh_iload hK d_Dc_rankOf_29 rfl ?_
        refine gh_iload hK d_Dc_rankOf_31 rfl ?_
        refine gh_addN hK d_Dc_rankOf_33 ?_
        refine gh_iconst (v := nI 2) hK d_Dc_rankOf_34 (by decide) ?_
        refine gh_divN hK d_Dc_rankOf_35 (by omega) (by omega) (by omega) ?_
        have hmd : (lo + hi) / 2 < hi := by omega
        have hmd2 : lo ≤ (lo + hi) / 2 := by omega
        have hmd3 : (lo + hi) / 2 - lo < 2 ^ m := by omega
        have hmd4 : hi - ((lo + hi) / 2 + 1) < 2 ^ m := by omega
        obtain ⟨x, hx⟩ : ∃ x, es[(lo + hi) / 2]? = some x := ⟨_, List.getElem?_eq_getElem (by omega)⟩
        generalize (lo + hi) / 2 = md at hmd hmd2 hmd3 hmd4 hx ⊢
        have hwm := dws_at hx
        obtain ⟨wa, wb, e1, e2⟩ := h.2.2 x (List.mem_of_getElem? hx)
        refine gh_istore (lv' := [some (.ref da), some (.ref ra), some (.int (nI fr)), some (.int (nI len)), some (.int (nI lo)), some (.int (nI hi)), some (.int (nI i)), some (.int (nI md)), o8]) hK d_Dc_rankOf_36 (Nat.le_of_ble_eq_true rfl) rfl ?_
        refine gh_aload_n hK d_Dc_rankOf_38 rfl ?_
        refine gh_get hK d_Dc_rankOf_39 in_Dc rfl h.1 0 (by decide) kf_Dc_12 rfl rfl ?_
        refine gh_iload hK d_Dc_rankOf_42 rfl ?_
        refine gh_callV (rest := []) [.int (nI md)] hK (c_AL_get l G h.2.1 (dad_at hx)) Y_AL_get V_AL_get km_Dc_25 k1 rfl rfl d_Dc_rankOf_44 rfl rfl (Nat.le_of_ble_eq_true rfl) ⟨(Nat.le_of_ble_eq_true rfl), (Nat.le_of_ble_eq_true rfl)⟩ ⟨(Nat.le_of_ble_eq_true rfl), (Nat.le_of_ble_eq_true rfl)⟩ (fun v g' hp => ?_)
        rw [hp.1, hp.2]
        show gh_W l G _ X g _ _ [some (.ref da), some (.ref ra), some (.int (nI fr)), some (.int (nI len)), some (.int (nI lo)), some (.int (nI hi)), some (.int (nI i)), some (.int (nI md)), o8] 47 [.ref x.1]
        refine gh_cast0 hK d_Dc_rankOf_47 kc_Dc_29 e1 rfl ?_
        refine gh_get hK d_Dc_rankOf_50 in_En rfl e1 0 (by decide) kf_Dc_35 rfl rfl ?_
        refine gh_astore (lv' := [some (.ref da), some (.ref ra), some (.int (nI fr)), some (.int (nI len)), some (.int (nI lo)), some (.int (nI hi)), some (.int (nI i)), some (.int (nI md)), some (.ref wa)]) hK d_Dc_rankOf_53 (Nat.le_of_ble_eq_true rfl) rfl ?_
        refine gh_aload hK d_Dc_rankOf_55 rfl ?_
        refine gh_iconst (v := nI 0) hK d_Dc_rankOf_57 (by decide) ?_
        refine gh_aload hK d_Dc_rankOf_58 rfl ?_
        refine gh_callV (rest := [.int (nI 0), .ref wa]) [] hK (c_Lt_count l G e2) Y_Lt_count V_Lt_count km_Dc_39 e2.ob rfl rfl d_Dc_rankOf_60 rfl rfl (Nat.le_of_ble_eq_true rfl) ⟨(Nat.le_of_ble_eq_true rfl), (Nat.le_of_ble_eq_true rfl)⟩ ⟨(Nat.le_of_ble_eq_true rfl), (Nat.le_of_ble_eq_true rfl)⟩ (fun v g' hp => ?_)
        rw [hp.1, hp.2]
        show gh_W l G _ X g _ _ [some (.ref da), some (.ref ra), some (.int (nI fr)), some (.int (nI len)), some (.int (nI lo)), some (.int (nI hi)), some (.int (nI i)), some (.int (nI md)), some (.ref wa)] 63 [.int (nI x.2.1.length), .int (nI 0), .ref wa]
        refine gh_aload_n hK d_Dc_rankOf_63 rfl ?_
        refine gh_iload_n hK d_Dc_rankOf_64 rfl ?_
        refine gh_iload_n hK d_Dc_rankOf_65 rfl ?_
        refine gh_callV (rest := []) [.int (nI 0), .int (nI x.2.1.length), .ref ra, .int (nI fr), .int (nI len)] hK (c_Lt_compare l G e2 hr (fr := 0) (len := x.2.1.length) (of := fr) (ol := len) (by omega) hf) Y_Lt_compare V_Lt_compare km_Dc_44 e2.ob rfl rfl d_Dc_rankOf_66 rfl rfl (Nat.le_of_ble_eq_true rfl) ⟨(Nat.le_of_ble_eq_true rfl), (Nat.le_of_ble_eq_true rfl)⟩ ⟨(Nat.le_of_ble_eq_true rfl), (Nat.le_of_ble_eq_true rfl)⟩ (fun v g' hp => ?_)
        obtain ⟨r, rfl, hr1, hg⟩ := hp
        rw [hg]
        show gh_W l G _ X g _ _ [some (.ref da), some (.ref ra), some (.int (nI fr)), some (.int (nI len)), some (.int (nI lo)), some (.int (nI hi)), some (.int (nI i)), some (.int (nI md)), some (.ref wa)] 69 [.int r]
        rw [hw, List.drop_zero, List.take_length] at hr1
        refine gh_if_geI hK d_Dc_rankOf_69 (tgt := 81) (by decide) hr1 (fun z4 => ?_) (fun z4 => ?_)
        · refine gh_iload hK d_Dc_rankOf_81 rfl ?_
          refine gh_istore (lv' := [some (.ref da), some (.ref ra), some (.int (nI fr)), some (.int (nI len)), some (.int (nI lo)), some (.int (nI md)), some (.int (nI i)), some (.int (nI md)), some (.ref wa)]) hK d_Dc_rankOf_83 (Nat.le_of_ble_eq_true rfl) rfl ?_
          refine gh_incN (lv' := [some (.ref da), some (.ref ra), some (.int (nI fr)), some (.int (nI len)), some (.int (nI lo)), some (.int (nI md)), some (.int (nI (i + 1))), some (.int (nI md)), some (.ref wa)]) hK d_Dc_rankOf_85 rfl rfl ?_
          refine gh_goto (tgt := 15) hK d_Dc_rankOf_88 (by decide) ?_
          refine ih (i + 1) lo md _ _ (by omega) (by omega) h1 ?_ (by omega)
          rcases Nat.lt_or_ge md (rnkL w (dws es)) with q | q
          · have := rnkL_lt w hwm q; omega
          · exact q
        · refine gh_iload hK d_Dc_rankOf_72 rfl ?_
          refine gh_iconst (v := nI 1) hK d_Dc_rankOf_74 (by decide) ?_
          refine gh_addN hK d_Dc_rankOf_75 ?_
          refine gh_istore (lv' := [some (.ref da), some (.ref ra), some (.int (nI fr)), some (.int (nI len)), some (.int (nI (md + 1))), some (.int (nI hi)), some (.int (nI i)), some (.int (nI md)), some (.ref wa)]) hK d_Dc_rankOf_76 (Nat.le_of_ble_eq_true rfl) rfl ?_
          refine gh_goto (tgt := 85) hK d_Dc_rankOf_78 (by decide) ?_
          refine gh_incN (lv' := [some (.ref da), some (.ref ra), some (.int (nI fr)), some (.int (nI len)), some (.int (nI (md + 1))), some (.int (nI hi)), some (.int (nI (i + 1))), some (.int (nI md)), some (.ref wa)]) hK d_Dc_rankOf_85 rfl rfl ?_
          refine gh_goto (tgt := 15) hK d_Dc_rankOf_88 (by decide) ?_
          exact ih (i + 1) (md + 1) hi _ _ (by omega) (by omega) ((rnkL_at w hs hwm).mp z4) h2 h3
  refine gh_iconst (v := nI 0) hK d_Dc_rankOf_0 (by decide) ?_
  refine gh_istore (lv' := [some (.ref da), some (.ref ra), some (.int (nI fr)), some (.int (nI len)), some (.int (nI 0)), none, none, none, none]) hK d_Dc_rankOf_1 (Nat.le_of_ble_eq_true rfl) rfl ?_
  refine gh_aload_n hK d_Dc_rankOf_3 rfl ?_
  refine gh_get hK d_Dc_rankOf_4 in_Dc rfl h.1 0 (by decide) kf_Dc_12 rfl rfl ?_
  refine gh_callV (rest := []) [] hK (c_AL_size l G h.2.1) Y_AL_size V_AL_size km_Dc_18 k1 rfl rfl d_Dc_rankOf_7 rfl rfl (Nat.le_of_ble_eq_true rfl) ⟨(Nat.le_of_ble_eq_true rfl), (Nat.le_of_ble_eq_true rfl)⟩ ⟨(Nat.le_of_ble_eq_true rfl), (Nat.le_of_ble_eq_true rfl)⟩ (fun v g' hp => ?_)
  rw [hp.1, hp.2]
  show gh_W l G _ X g _ _ [some (.ref da), some (.ref ra), some (.int (nI fr)), some (.int (nI len)), some (.int (nI 0)), none, none, none, none] 10 [.int (nI ((es.map fun x => x.1).length))]
  rw [List.length_map]
  refine gh_istore (lv' := [some (.ref da), some (.ref ra), some (.int (nI fr)), some (.int (nI len)), some (.int (nI 0)), some (.int (nI es.length)), none, none, none]) hK d_Dc_rankOf_10 (Nat.le_of_ble_eq_true rfl) rfl ?_
  refine gh_iconst (v := nI 0) hK d_Dc_rankOf_12 (by decide) ?_
  refine gh_istore (lv' := [some (.ref da), some (.ref ra), some (.int (nI fr)), some (.int (nI len)), some (.int (nI 0)), some (.int (nI es.length)), some (.int (nI 0)), none, none]) hK d_Dc_rankOf_13 (Nat.le_of_ble_eq_true rfl) rfl ?_
  exact loop 32 0 0 es.length none none (by omega) (by omega) (Nat.zero_le _) hrk (Nat.le_refl _)
set_option maxRecDepth 20000 in
set_option maxHeartbeats 4000000 in
theorem c_Dc_atW (l : Launch) (G : GG) {g : GH} {da aa : Nat} {es : List (Nat × List Nat × Nat)} {j : Nat} {ra rt rb ru rcap fr len : Nat} {ys : List Nat} (h : Dc G g da aa es) (hj : j < 2 ^ 31) (hr : Lt G g ra rt rb ru rcap ys) (hf : fr + len ≤ ys.length) : gMet l G y_Dc_at b_Dc_at 6 (some (.object "SpellDesk$Entry")) (rmk 4 0 0 85) [.ref da, .int (nI j), .ref ra, .int (nI fr), .int (nI len)] g (fun v g' => (∀ x, es[j]? = some x → x.2.1 = (ys.drop fr).take len → v = some (.ref x.1)) ∧ ((∀ x, es[j]? = some x → x.2.1 ≠ (ys.drop fr).take len) → v = some .null) ∧ g' = g) := by
  refine gMet.of [some (.ref da), some (.int (nI j)), some (.ref ra), some (.int (nI fr)), some (.int (nI len)), none] (by decide +kernel) rfl (Nat.le_of_ble_eq_true rfl) rfl (fun X hK hI hE => ?_)
  refine gh_aload_n hK d_Dc_at_0 rfl ?_
  refine gh_iload_n hK d_Dc_at_1 rfl ?_
  cases hx : es[j]? with
  | none =>
    refine gh_callV (rest := []) [.int (nI j)] hK (c_Dc_at l G h hj) Y_Dc_at1 V_Dc_at1 km_Dc_31 h.1 rfl rfl d_Dc_at_2 rfl rfl (Nat.le_of_ble_eq_true rfl) ⟨(Nat.le_of_ble_eq_true rfl), (Nat.le_of_ble_eq_true rfl)⟩ ⟨(Nat.le_of_ble_eq_true rfl), (Nat.le_of_ble_eq_true rfl)⟩ (fun v g' hp => ?_)
    rw [hp.2.1 hx, hp.2.2]
    show gh_W l G _ X g _ _ [some (.ref da), some (.int (nI j)), some (.ref ra), some (.int (nI fr)), some (.int (nI len)), none] 5 [.null]
    refine gh_astoreN (lv' := [some (.ref da), some (.int (nI j)), some (.ref ra), some (.int (nI fr)), some (.int (nI len)), some (.null)]) hK d_Dc_at_5 (Nat.le_of_ble_eq_true rfl) rfl ?_
    refine gh_aloadN hK d_Dc_at_7 rfl ?_
    refine gh_ifnullN hK d_Dc_at_9 (tgt := 36) (by decide) ?_
    refine gh_null hK d_Dc_at_36 ?_
    exact gh_aret (Or.inl ⟨_, rfl⟩) (Or.inl rfl) hK hE d_Dc_at_37 (Nat.le_of_ble_eq_true rfl) (Nat.le_of_ble_eq_true rfl) ⟨fun x hx2 => (by rw [hx] at hx2; cases hx2), fun _ => rfl, rfl⟩
  | some x =>
    obtain ⟨wa, wb, e1, e2⟩ := h.2.2 x (List.mem_of_getElem? hx)
    refine gh_callV (rest := []) [.int (nI j)] hK (c_Dc_at l G h hj) Y_Dc_at1 V_Dc_at1 km_Dc_31 h.1 rfl rfl d_Dc_at_2 rfl rfl (Nat.le_of_ble_eq_true rfl) ⟨(Nat.le_of_ble_eq_true rfl), (Nat.le_of_ble_eq_true rfl)⟩ ⟨(Nat.le_of_ble_eq_true rfl), (Nat.le_of_ble_eq_true rfl)⟩ (fun v g' hp => ?_)
    rw [hp.1 x hx, hp.2.2]
    show gh_W l G _ X g _ _ [some (.ref da), some (.int (nI j)), some (.ref ra), some (.int (nI fr)), some (.int (nI len)), none] 5 [.ref x.1]
    refine gh_astore (lv' := [some (.ref da), some (.int (nI j)), some (.ref ra), some (.int (nI fr)), some (.int (nI len)), some (.ref x.1)]) hK d_Dc_at_5 (Nat.le_of_ble_eq_true rfl) rfl ?_
    refine gh_aload hK d_Dc_at_7 rfl ?_
    refine gh_ifnull hK d_Dc_at_9 ?_
    refine gh_aload hK d_Dc_at_12 rfl ?_
    refine gh_get hK d_Dc_at_14 in_En rfl e1 0 (by decide) kf_Dc_35 rfl rfl ?_
    refine gh_iconst (v := nI 0) hK d_Dc_at_17 (by decide) ?_
    refine gh_aload hK d_Dc_at_18 rfl ?_
    refine gh_get hK d_Dc_at_20 in_En rfl e1 0 (by decide) kf_Dc_35 rfl rfl ?_
    refine gh_callV (rest := [.int (nI 0), .ref wa]) [] hK (c_Lt_count l G e2) Y_Lt_count V_Lt_count km_Dc_39 e2.ob rfl rfl d_Dc_at_23 rfl rfl (Nat.le_of_ble_eq_true rfl) ⟨(Nat.le_of_ble_eq_true rfl), (Nat.le_of_ble_eq_true rfl)⟩ ⟨(Nat.le_of_ble_eq_true rfl), (Nat.le_of_ble_eq_true rfl)⟩ (fun v g' hp => ?_)
    rw [hp.1, hp.2]
    show gh_W l G _ X g _ _ [some (.ref da), some (.int (nI j)), some (.ref ra), some (.int (nI fr)), some (.int (nI len)), some (.ref x.1)] 26 [.int (nI x.2.1.length), .int (nI 0), .ref wa]
    refine gh_aload_n hK d_Dc_at_26 rfl ?_
    refine gh_iload_n hK d_Dc_at_27 rfl ?_
    refine gh_iload hK d_Dc_at_28 rfl ?_
    refine gh_callV (rest := []) [.int (nI 0), .int (nI x.2.1.length), .ref ra, .int (nI fr), .int (nI len)] hK (c_Lt_compare l G e2 hr (fr := 0) (len := x.2.1.length) (of := fr) (ol := len) (by omega) hf) Y_Lt_compare V_Lt_compare km_Dc_44 e2.ob rfl rfl d_Dc_at_30 rfl rfl (Nat.le_of_ble_eq_true rfl) ⟨(Nat.le_of_ble_eq_true rfl), (Nat.le_of_ble_eq_true rfl)⟩ ⟨(Nat.le_of_ble_eq_true rfl), (Nat.le_of_ble_eq_true rfl)⟩ (fun v g' hp => ?_)
    obtain ⟨r, rfl, hr1, hg⟩ := hp
    rw [hg]
    show gh_W l G _ X g _ _ [some (.ref da), some (.int (nI j)), some (.ref ra), some (.int (nI fr)), some (.int (nI len)), some (.ref x.1)] 33 [.int r]
    rw [List.drop_zero, List.take_length] at hr1
    refine gh_if_eqI hK d_Dc_at_33 (tgt := 38) (by decide) hr1 (fun z => ?_) (fun z => ?_)
    · refine gh_aload hK d_Dc_at_38 rfl ?_
      exact gh_aret (Or.inl ⟨_, rfl⟩) (Or.inr ⟨_, rfl⟩) hK hE d_Dc_at_40 (Nat.le_of_ble_eq_true rfl) (Nat.le_of_ble_eq_true rfl) ⟨fun y hy _ => by rw [hx] at hy; cases hy; rfl, fun q => absurd ((cmpL_zero _ _).mp z) (q x hx), rfl⟩
    · refine gh_null hK d_Dc_at_36 ?_
      exact gh_aret (Or.inl ⟨_, rfl⟩) (Or.inl rfl) hK hE d_Dc_at_37 (Nat.le_of_ble_eq_true rfl) (Nat.le_of_ble_eq_true rfl) ⟨fun y hy q => by rw [hx] at hy; cases hy; exact absurd ((cmpL_zero _ _).mpr q) z, fun _ => rfl, rfl⟩
set_option maxRecDepth 20000 in
set_option maxHeartbeats 4000000 in
theorem c_Dc_insert (l : Launch) (G : GG) {g : GH} {da aa : Nat} {es : List (Nat × List Nat × Nat)} {j e fl : Nat} {w : List Nat} (h : Dc G g da aa es) (hj : j ≤ es.length) (hlt : es.length < 300) (he : En G g e w fl) : gMet l G y_Dc_insert b_Dc_insert 3 none (rmk 6 1 450 175) [.ref da, .int (nI j), .ref e] g (fun v g' => v = none ∧ Dc G g' da aa (insA es j (e, w, fl)) ∧ gh_M [8, 9] g g') := by
  refine gMet.of [some (.ref da), some (.int (nI j)), some (.ref e)] (by decide +kernel) rfl (Nat.le_of_ble_eq_true rfl) rfl (fun X hK hI hE => ?_)
  obtain ⟨k0, k1⟩ := h.2.1.ob
  obtain ⟨wa, wb, e1, e2⟩ := id he
  refine gh_iload_n hK d_Dc_insert_0 rfl ?_
  refine gh_if_ltN hK d_Dc_insert_1 (tgt := 24) (by decide) (by omega) ?_
  refine gh_iload_n hK d_Dc_insert_4 rfl ?_
  refine gh_aload_n hK d_Dc_insert_5 rfl ?_
  refine gh_get hK d_Dc_insert_6 in_Dc rfl h.1 0 (by decide) kf_Dc_12 rfl rfl ?_
  refine gh_callV (rest := [.int (nI j)]) [] hK (c_AL_size l G h.2.1) Y_AL_size V_AL_size km_Dc_18 k1 rfl rfl d_Dc_insert_9 rfl rfl (Nat.le_of_ble_eq_true rfl) ⟨(Nat.le_of_ble_eq_true rfl), (Nat.le_of_ble_eq_true rfl)⟩ ⟨Nat.zero_le _, Nat.zero_le _⟩ (fun v g' hp => ?_)
  rw [hp.1, hp.2]
  show gh_W l G _ X g _ _ [some (.ref da), some (.int (nI j)), some (.ref e)] 12 [.int (nI ((es.map fun x => x.1).length)), .int (nI j)]
  rw [List.length_map]
  refine gh_icmp_gtN hK d_Dc_insert_12 (tgt := 24) (by decide) (by omega) (by omega) (fun z => absurd z (by omega)) (fun z => ?_)
  refine gh_aload_n hK d_Dc_insert_15 rfl ?_
  refine gh_get hK d_Dc_insert_16 in_Dc rfl h.1 0 (by decide) kf_Dc_12 rfl rfl ?_
  refine gh_iload_n hK d_Dc_insert_19 rfl ?_
  refine gh_aload_n hK d_Dc_insert_20 rfl ?_
  refine gh_callV (rest := []) [.int (nI j), .ref e] hK (c_AL_addAt l G h.2.1 (by rw [List.length_map]; exact hj) (by rw [List.length_map]; exact hlt) h.T (ci := 2) rfl (Or.inl rfl) e1 (by decide)) Y_AL_add V_AL_add km_Dc_48 k1 rfl rfl d_Dc_insert_21 rfl rfl (Nat.le_of_ble_eq_true rfl) ⟨(Nat.le_of_ble_eq_true rfl), (Nat.le_of_ble_eq_true rfl)⟩ ⟨(Nat.le_of_ble_eq_true rfl), (Nat.le_of_ble_eq_true rfl)⟩ (fun v g1 hp => ?_)
  obtain ⟨rfl, hp1, hp2⟩ := hp
  show gh_W l G _ X g1 _ _ [some (.ref da), some (.int (nI j)), some (.ref e)] 24 []
  refine gh_vret hK hE d_Dc_insert_24 (Nat.le_of_ble_eq_true rfl) (Nat.le_of_ble_eq_true rfl) ⟨rfl, ⟨hp2 da 7 _ h.1 (by decide), by rw [insA_map]; exact hp1, fun x hx => ?_⟩, hp2⟩
  rcases insA_mem hx with q | q
  · exact (h.2.2 x q).M hp2 (by decide) (by decide) (by decide)
  · rw [q]
    exact he.M hp2 (by decide) (by decide) (by decide)
set_option maxRecDepth 20000 in
set_option maxHeartbeats 4000000 in
theorem c_Dc_remove (l : Launch) (G : GG) {g : GH} {da aa : Nat} {es : List (Nat × List Nat × Nat)} {j : Nat} (h : Dc G g da aa es) (hj : j < es.length) : gMet l G y_Dc_remove b_Dc_remove 2 none (rmk 3 0 0 110) [.ref da, .int (nI j)] g (fun v g' => v = none ∧ Dc G g' da aa (es.eraseIdx j) ∧ gh_M [8, 9] g g') := by
  refine gMet.of [some (.ref da), some (.int (nI j))] (by decide +kernel) rfl (Nat.le_of_ble_eq_true rfl) rfl (fun X hK hI hE => ?_)
  have hlen := h.len
  obtain ⟨k0, k1⟩ := h.2.1.ob
  refine gh_iload_n hK d_Dc_remove_0 rfl ?_
  refine gh_if_ltN hK d_Dc_remove_1 (tgt := 24) (by decide) (by omega) ?_
  refine gh_iload_n hK d_Dc_remove_4 rfl ?_
  refine gh_aload_n hK d_Dc_remove_5 rfl ?_
  refine gh_get hK d_Dc_remove_6 in_Dc rfl h.1 0 (by decide) kf_Dc_12 rfl rfl ?_
  refine gh_callV (rest := [.int (nI j)]) [] hK (c_AL_size l G h.2.1) Y_AL_size V_AL_size km_Dc_18 k1 rfl rfl d_Dc_remove_9 rfl rfl (Nat.le_of_ble_eq_true rfl) ⟨(Nat.le_of_ble_eq_true rfl), (Nat.le_of_ble_eq_true rfl)⟩ ⟨(Nat.le_of_ble_eq_true rfl), (Nat.le_of_ble_eq_true rfl)⟩ (fun v g' hp => ?_)
  rw [hp.1, hp.2]
  show gh_W l G _ X g _ _ [some (.ref da), some (.int (nI j))] 12 [.int (nI ((es.map fun x => x.1).length)), .int (nI j)]
  rw [List.length_map]
  refine gh_icmp_geN hK d_Dc_remove_12 (tgt := 24) (by decide) (by omega) (by omega) (fun z => absurd z (by omega)) (fun z => ?_)
  refine gh_aload_n hK d_Dc_remove_15 rfl ?_
  refine gh_get hK d_Dc_remove_16 in_Dc rfl h.1 0 (by decide) kf_Dc_12 rfl rfl ?_
  refine gh_iload_n hK d_Dc_remove_19 rfl ?_
  refine gh_callV (rest := []) [.int (nI j)] hK (c_AL_remove l G h.2.1 (ci := 2) (tg := 50) (by rw [List.length_map]; exact hj) h.T rfl (Or.inl rfl) (by decide)) Y_AL_remove V_AL_remove km_Dc_52 k1 rfl rfl d_Dc_remove_20 rfl rfl (Nat.le_of_ble_eq_true rfl) ⟨(Nat.le_of_ble_eq_true rfl), (Nat.le_of_ble_eq_true rfl)⟩ ⟨(Nat.le_of_ble_eq_true rfl), (Nat.le_of_ble_eq_true rfl)⟩ (fun v g1 hp => ?_)
  obtain ⟨⟨q, rfl⟩, hp1, hp2⟩ := hp
  show gh_W l G _ X g1 _ _ [some (.ref da), some (.int (nI j))] 23 [.ref q]
  refine gh_pop hK d_Dc_remove_23 rfl ?_
  exact gh_vret hK hE d_Dc_remove_24 (Nat.le_of_ble_eq_true rfl) (Nat.le_of_ble_eq_true rfl) ⟨rfl, ⟨hp2 da 7 _ h.1 (by decide), by rw [map_erI]; exact hp1, fun x hx => (h.2.2 x (List.mem_of_mem_eraseIdx hx)).M hp2 (by decide) (by decide) (by decide)⟩, hp2⟩
end
section
/-! THE RULES OF A KIND: (address, flag, strip, add, condition), by their numbers; tags from B on -/
abbrev RuR : Type := Nat × List Nat × List Nat × List Nat
def Rs (G : GG) (g : GH) (ra aa na B : Nat) (fr : Bool) (us : List (Nat × RuR)) : Prop := g ra = some (B, .inr (7, [.int (nI (bn fr)), .ref aa, .ref na])) ∧ Al G g aa (B + 1) (B + 2) (us.map fun x => x.1) ∧ Ru G g na (B + 3) (B + 4) (B + 5) fr 0 [] [] [] ∧ ∀ x, x ∈ us → Ru G g x.1 60 61 62 fr x.2.1 x.2.2.1 x.2.2.2.1 x.2.2.2.2
theorem Rs.M {G : GG} {g g' : GH} {ra aa na B : Nat} {fr : Bool} {us : List (Nat × RuR)} {S : List Nat} (h : Rs G g ra aa na B fr us) (hM : gh_M S g g') (h1 : ∀ t, t ∈ [B, B + 1, B + 2, B + 3, B + 4, B + 5, 60, 61, 62] → t ∉ S) : Rs G g' ra aa na B fr us := ⟨hM ra B _ h.1 (h1 _ (by simp)), h.2.1.M hM (h1 _ (by simp)) (h1 _ (by simp)), h.2.2.1.M hM (h1 _ (by simp)) (h1 _ (by simp)) (h1 _ (by simp)), fun x hx => (h.2.2.2 x hx).M hM (h1 _ (by simp)) (h1 _ (by simp)) (h1 _ (by simp))⟩
theorem Rs.T {G : GG} {g : GH} {ra aa na B : Nat} {fr : Bool} {us : List (Nat × RuR)} (h : Rs G g ra aa na B fr us) : AlT g 6 60 (us.map fun x => x.1) := fun r hr => by
  obtain ⟨x, hx, rfl⟩ := List.mem_map.mp hr
  obtain ⟨sa, sb, aa1, ab, ca, cb, k1, -⟩ := h.2.2.2 x hx
  exact ⟨_, k1⟩
theorem Rs.len {G : GG} {g : GH} {ra aa na B : Nat} {fr : Bool} {us : List (Nat × RuR)} (h : Rs G g ra aa na B fr us) : us.length ≤ 450 := by
  have := h.2.1.len
  rwa [List.length_map] at this
/-- the rule of a number: 0 is none -/
def rlN (us : List (Nat × RuR)) (j : Nat) : RuR := if j = 0 then (0, [], [], []) else ((us[j - 1]?).map fun x => x.2).getD (0, [], [], [])
/-- a rule somewhere, whichever its tags -/
def RuX (G : GG) (g : GH) (q : Nat) (fr : Bool) (u : RuR) : Prop := ∃ t1 t2 t3, t1 ∈ [13, 23, 60] ∧ t2 ∈ [14, 24, 61] ∧ t3 ∈ [15, 25, 62] ∧ Ru G g q t1 t2 t3 fr u.1 u.2.1 u.2.2.1 u.2.2.2
theorem RuX.M {G : GG} {g g' : GH} {q : Nat} {fr : Bool} {u : RuR} {S : List Nat} (h : RuX G g q fr u) (hM : gh_M S g g') (h1 : ∀ t, t ∈ [13, 14, 15, 23, 24, 25, 60, 61, 62] → t ∉ S) : RuX G g' q fr u := by
  obtain ⟨t1, t2, t3, k1, k2, k3, k4⟩ := h
  refine ⟨t1, t2, t3, k1, k2, k3, k4.M hM (h1 _ ?_) (h1 _ ?_) (h1 _ ?_)⟩
  · simp at k1 ⊢; omega
  · simp at k2 ⊢; omega
  · simp at k3 ⊢; omega
set_option maxRecDepth 20000 in
set_option maxHeartbeats 4000000 in
theorem c_Rs_atFront (l : Launch) (G : GG) {g : GH} {ra aa na B : Nat} {fr : Bool} {us : List (Nat × RuR)} (h : Rs G g ra aa na B fr us) : gMet l G y_Rs_atFront b_Rs_atFront 1 (some .boolean) (rmk 0 0 0 0) [.ref ra] g (fun v g' => v = some (.int (nI (bn fr))) ∧ g' = g) := by
  refine gMet.of [some (.ref ra)] (by decide +kernel) rfl (Nat.le_of_ble_eq_true rfl) rfl (fun X hK hI hE => ?_)
  refine gh_aload_n hK d_Rs_atFront_0 rfl ?_
  refine gh_get hK d_Rs_atFront_1 in_Rs rfl h.1 0 (by decide) kf_Rs_7 rfl rfl ?_
  exact gh_zret (bn_nar _) hK hE d_Rs_atFront_4 (Nat.le_of_ble_eq_true rfl) (Nat.le_of_ble_eq_true rfl) ⟨rfl, rfl⟩
set_option maxRecDepth 20000 in
set_option maxHeartbeats 4000000 in
theorem c_Rs_count (l : Launch) (G : GG) {g : GH} {ra aa na B : Nat} {fr : Bool} {us : List (Nat × RuR)} (h : Rs G g ra aa na B fr us) : gMet l G y_Rs_count b_Rs_count 1 (some .int) (rmk 1 0 0 20) [.ref ra] g (fun v g' => v = some (.int (nI us.length)) ∧ g' = g) := by
  refine gMet.of [some (.ref ra)] (by decide +kernel) rfl (Nat.le_of_ble_eq_true rfl) rfl (fun X hK hI hE => ?_)
  obtain ⟨k0, k1⟩ := h.2.1.ob
  refine gh_aload_n hK d_Rs_count_0 rfl ?_
  refine gh_get hK d_Rs_count_1 in_Rs rfl h.1 1 (by decide) kf_Rs_16 rfl rfl ?_
  refine gh_callV (rest := []) [] hK (c_AL_size l G h.2.1) Y_AL_size V_AL_size km_Rs_34 k1 rfl rfl d_Rs_count_4 rfl rfl (Nat.le_of_ble_eq_true rfl) ⟨(Nat.le_of_ble_eq_true rfl), (Nat.le_of_ble_eq_true rfl)⟩ ⟨(Nat.le_of_ble_eq_true rfl), (Nat.le_of_ble_eq_true rfl)⟩ (fun v g' hp => ?_)
  rw [hp.1, hp.2]
  show gh_W l G _ X g _ _ [some (.ref ra)] 7 [.int (nI ((us.map fun x => x.1).length))]
  rw [List.length_map]
  exact gh_iret hK hE d_Rs_count_7 (Nat.le_of_ble_eq_true rfl) (Nat.le_of_ble_eq_true rfl) ⟨rfl, rfl⟩
set_option maxRecDepth 20000 in
set_option maxHeartbeats 4000000 in
theorem c_Rs_clear (l : Launch) (G : GG) {g : GH} {ra aa na B : Nat} {fr : Bool} {us : List (Nat × RuR)} (h : Rs G g ra aa na B fr us) (hB : B = 10 ∨ B = 20) : gMet l G y_Rs_clear b_Rs_clear 1 none (rmk 1 0 0 23) [.ref ra] g (fun v g' => v = none ∧ Rs G g' ra aa na B fr [] ∧ gh_M [B + 1, B + 2] g g') := by
  refine gMet.of [some (.ref ra)] (by decide +kernel) rfl (Nat.le_of_ble_eq_true rfl) rfl (fun X hK hI hE => ?_)
  obtain ⟨k0, k1⟩ := h.2.1.ob
  refine gh_aload_n hK d_Rs_clear_0 rfl ?_
  refine gh_get hK d_Rs_clear_1 in_Rs rfl h.1 1 (by decide) kf_Rs_16 rfl rfl ?_
  refine gh_callV (rest := []) [] hK (c_AL_clear l G h.2.1) Y_AL_clear V_AL_clear km_Rs_38 k1 rfl rfl d_Rs_clear_4 rfl rfl (Nat.le_of_ble_eq_true rfl) ⟨(Nat.le_of_ble_eq_true rfl), (Nat.le_of_ble_eq_true rfl)⟩ ⟨(Nat.le_of_ble_eq_true rfl), (Nat.le_of_ble_eq_true rfl)⟩ (fun v g1 hp => ?_)
  obtain ⟨rfl, hp1, hp2⟩ := hp
  show gh_W l G _ X g1 _ _ [some (.ref ra)] 7 []
  exact gh_vret hK hE d_Rs_clear_7 (Nat.le_of_ble_eq_true rfl) (Nat.le_of_ble_eq_true rfl) ⟨rfl, ⟨hp2 ra B _ h.1 (by simp), hp1, h.2.2.1.M hp2 (by simp) (by simp) (by simp), fun x hx => absurd hx List.not_mem_nil⟩, hp2⟩
set_option maxRecDepth 20000 in
set_option maxHeartbeats 4000000 in
theorem c_Rs_append (l : Launch) (G : GG) {g : GH} {ra aa na B : Nat} {fr : Bool} {us : List (Nat × RuR)} {e : Nat} {u : RuR} (h : Rs G g ra aa na B fr us) (hB : B = 10 ∨ B = 20) (hlt : us.length < 300) (he : Ru G g e 60 61 62 fr u.1 u.2.1 u.2.2.1 u.2.2.2) : gMet l G y_Rs_append b_Rs_append 2 none (rmk 7 1 450 195) [.ref ra, .ref e] g (fun v g' => v = none ∧ Rs G g' ra aa na B fr (us ++ [(e, u)]) ∧ gh_M [B + 1, B + 2] g g') := by
  refine gMet.of [some (.ref ra), some (.ref e)] (by decide +kernel) rfl (Nat.le_of_ble_eq_true rfl) rfl (fun X hK hI hE => ?_)
  obtain ⟨k0, k1⟩ := h.2.1.ob
  obtain ⟨sa, sb, aa1, ab, ca, cb, e1, -⟩ := id he
  have h60 : 60 ∉ [B + 1, B + 2] := by rcases hB with rfl | rfl <;> decide
  have h61 : 61 ∉ [B + 1, B + 2] := by rcases hB with rfl | rfl <;> decide
  have h62 : 62 ∉ [B + 1, B + 2] := by rcases hB with rfl | rfl <;> decide
  refine gh_aload_n hK d_Rs_append_0 rfl ?_
  refine gh_get hK d_Rs_append_1 in_Rs rfl h.1 1 (by decide) kf_Rs_16 rfl rfl ?_
  refine gh_aload_n hK d_Rs_append_4 rfl ?_
  refine gh_callV (rest := []) [.ref e] hK (c_AL_add l G h.2.1 (by rw [List.length_map]; exact hlt) h.T (ci := 6) rfl (Or.inr rfl) e1 h60) Y_AL_add1 V_AL_add1 km_Rs_41 k1 rfl rfl d_Rs_append_5 rfl rfl (Nat.le_of_ble_eq_true rfl) ⟨(Nat.le_of_ble_eq_true rfl), (Nat.le_of_ble_eq_true rfl)⟩ ⟨(Nat.le_of_ble_eq_true rfl), (Nat.le_of_ble_eq_true rfl)⟩ (fun v g1 hp => ?_)
  obtain ⟨rfl, hp1, hp2⟩ := hp
  show gh_W l G _ X g1 _ _ [some (.ref ra), some (.ref e)] 8 [.int (nI 1)]
  refine gh_pop hK d_Rs_append_8 rfl ?_
  refine gh_vret hK hE d_Rs_append_9 (Nat.le_of_ble_eq_true rfl) (Nat.le_of_ble_eq_true rfl) ⟨rfl, ⟨hp2 ra B _ h.1 (by simp), by rw [List.map_append]; exact hp1, h.2.2.1.M hp2 (by simp) (by simp) (by simp), fun x hx => ?_⟩, hp2⟩
  rcases List.mem_append.mp hx with q | q
  · exact (h.2.2.2 x q).M hp2 h60 h61 h62
  · rw [List.mem_singleton.mp q]
    exact he.M hp2 h60 h61 h62
/-- where the rule of a number lies -/
def rlA (na : Nat) (us : List (Nat × RuR)) (j : Nat) : Nat := if j = 0 then na else ((us[j - 1]?).map fun x => x.1).getD na
theorem Rs.x {G : GG} {g : GH} {ra aa na B : Nat} {fr : Bool} {us : List (Nat × RuR)} (h : Rs G g ra aa na B fr us) (hB : B = 10 ∨ B = 20) {j : Nat} (hj : j ≤ us.length) : RuX G g (rlA na us j) fr (rlN us j) := by
  unfold rlA rlN
  by_cases z : j = 0
  · rw [if_pos z, if_pos z]
    refine ⟨B + 3, B + 4, B + 5, ?_, ?_, ?_, h.2.2.1⟩
    · rcases hB with rfl | rfl <;> decide
    · rcases hB with rfl | rfl <;> decide
    · rcases hB with rfl | rfl <;> decide
  · rw [if_neg z, if_neg z]
    obtain ⟨x, hx⟩ : ∃ x, us[j - 1]? = some x := ⟨_, List.getElem?_eq_getElem (by omega)⟩
    rw [hx]
    exact ⟨60, 61, 62, by decide, by decide, by decide, h.2.2.2 x (List.mem_of_getElem? hx)⟩
set_option maxRecDepth 20000 in
set_option maxHeartbeats 4000000 in
theorem c_Rs_at (l : Launch) (G : GG) {g : GH} {ra aa na B : Nat} {fr : Bool} {us : List (Nat × RuR)} {j : Nat} (h : Rs G g ra aa na B fr us) (hB : B = 10 ∨ B = 20) (hj : j ≤ us.length) : gMet l G y_Rs_at b_Rs_at 2 (some (.object "SpellDesk$Rule")) (rmk 3 0 0 64) [.ref ra, .int (nI j)] g (fun v g' => v = some (.ref (rlA na us j)) ∧ g' = g) := by
  refine gMet.of [some (.ref ra), some (.int (nI j))] (by decide +kernel) rfl (Nat.le_of_ble_eq_true rfl) rfl (fun X hK hI hE => ?_)
  have hlen := h.len
  obtain ⟨k0, k1⟩ := h.2.1.ob
  refine gh_iload_n hK d_Rs_at_0 rfl ?_
  refine gh_iconst (v := nI 1) hK d_Rs_at_1 (by decide) ?_
  refine gh_icmp_ltN hK d_Rs_at_2 (tgt := 32) (by decide) (by omega) (by decide) (fun z => ?_) (fun z => ?_)
  · refine gh_aload_n hK d_Rs_at_32 rfl ?_
    refine gh_get hK d_Rs_at_33 in_Rs rfl h.1 2 (by decide) kf_Rs_30 rfl rfl ?_
    exact gh_aret (Or.inl ⟨_, rfl⟩) (Or.inr ⟨_, rfl⟩) hK hE d_Rs_at_36 (Nat.le_of_ble_eq_true rfl) (Nat.le_of_ble_eq_true rfl) ⟨by rw [rlA, if_pos (by omega)], rfl⟩
  · refine gh_iload_n hK d_Rs_at_5 rfl ?_
    refine gh_aload_n hK d_Rs_at_6 rfl ?_
    refine gh_get hK d_Rs_at_7 in_Rs rfl h.1 1 (by decide) kf_Rs_16 rfl rfl ?_
    refine gh_callV (rest := [.int (nI j)]) [] hK (c_AL_size l G h.2.1) Y_AL_size V_AL_size km_Rs_34 k1 rfl rfl d_Rs_at_10 rfl rfl (Nat.le_of_ble_eq_true rfl) ⟨(Nat.le_of_ble_eq_true rfl), (Nat.le_of_ble_eq_true rfl)⟩ ⟨(Nat.le_of_ble_eq_true rfl), (Nat.le_of_ble_eq_true rfl)⟩ (fun v g' hp => ?_)
    rw [hp.1, hp.2]
    show gh_W l G _ X g _ _ [some (.ref ra), some (.int (nI j))] 13 [.int (nI ((us.map fun x => x.1).length)), .int (nI j)]
    rw [List.length_map]
    refine gh_icmp_gtN hK d_Rs_at_13 (tgt := 32) (by decide) (by omega) (by omega) (fun z2 => absurd z2 (by omega)) (fun z2 => ?_)
    obtain ⟨x, hx⟩ : ∃ x, us[j - 1]? = some x := ⟨_, List.getElem?_eq_getElem (by omega)⟩
    have hu := h.2.2.2 x (List.mem_of_getElem? hx)
    obtain ⟨sa, sb, aa1, ab, ca, cb, e1, -⟩ := id hu
    refine gh_aload_n hK d_Rs_at_16 rfl ?_
    refine gh_get hK d_Rs_at_17 in_Rs rfl h.1 1 (by decide) kf_Rs_16 rfl rfl ?_
    refine gh_iload_n hK d_Rs_at_20 rfl ?_
    refine gh_iconst (v := nI 1) hK d_Rs_at_21 (by decide) ?_
    refine gh_subN hK d_Rs_at_22 (by omega) ?_
    refine gh_callV (rest := []) [.int (nI (j - 1))] hK (c_AL_get l G h.2.1 (j := j - 1) (r := x.1) (by rw [List.getElem?_map, hx]; rfl)) Y_AL_get V_AL_get km_Rs_45 k1 rfl rfl d_Rs_at_23 rfl rfl (Nat.le_of_ble_eq_true rfl) ⟨(Nat.le_of_ble_eq_true rfl), (Nat.le_of_ble_eq_true rfl)⟩ ⟨(Nat.le_of_ble_eq_true rfl), (Nat.le_of_ble_eq_true rfl)⟩ (fun v g' hp => ?_)
    rw [hp.1, hp.2]
    show gh_W l G _ X g _ _ [some (.ref ra), some (.int (nI j))] 26 [.ref x.1]
    refine gh_cast0 hK d_Rs_at_26 kc_Rs_25 e1 rfl ?_
    refine gh_goto (tgt := 36) hK d_Rs_at_29 (by decide) ?_
    exact gh_aret (Or.inl ⟨_, rfl⟩) (Or.inr ⟨_, rfl⟩) hK hE d_Rs_at_36 (Nat.le_of_ble_eq_true rfl) (Nat.le_of_ble_eq_true rfl) ⟨by rw [rlA, if_neg (by omega), hx]; rfl, rfl⟩
end
section
abbrev b_Sp_init : ByteArray := prog_9_method_1_code
def y_Sp_init : MethodName := ⟨"SpellDesk$Speller", "<init>", "(LSpellDesk$Dictionary;LSpellDesk$RuleList;LSpellDesk$RuleList;)V"⟩
set_option maxRecDepth 20000 in
theorem Y_Sp_init : gh_Y y_Sp_init b_Sp_init 4 none 3 := ⟨gt_in (i := 187) rfl rfl, gt_in (i := 12) (by decide +kernel) rfl, by decide +kernel, by decide +kernel, by decide +kernel⟩
theorem V_Sp_init : Cond.instanceMethod y_Sp_init ∈ gTbl := (gt_in (i := 186) (by decide +kernel) rfl)
theorem d_Sp_init_0 : decode b_Sp_init 0 = .ok (.aload_n 0, 1) := by decide +kernel
theorem d_Sp_init_1 : decode b_Sp_init 1 = .ok (.invokespecial 3, 3) := by decide +kernel
theorem d_Sp_init_4 : decode b_Sp_init 4 = .ok (.aload_n 0, 1) := by decide +kernel
theorem d_Sp_init_5 : decode b_Sp_init 5 = .ok (.aload_n 1, 1) := by decide +kernel
theorem d_Sp_init_6 : decode b_Sp_init 6 = .ok (.putfield 9, 3) := by decide +kernel
theorem d_Sp_init_9 : decode b_Sp_init 9 = .ok (.aload_n 0, 1) := by decide +kernel
theorem d_Sp_init_10 : decode b_Sp_init 10 = .ok (.aload_n 2, 1) := by decide +kernel
theorem d_Sp_init_11 : decode b_Sp_init 11 = .ok (.putfield 15, 3) := by decide +kernel
theorem d_Sp_init_14 : decode b_Sp_init 14 = .ok (.aload_n 0, 1) := by decide +kernel
theorem d_Sp_init_15 : decode b_Sp_init 15 = .ok (.aload_n 3, 1) := by decide +kernel
theorem d_Sp_init_16 : decode b_Sp_init 16 = .ok (.putfield 19, 3) := by decide +kernel
theorem d_Sp_init_19 : decode b_Sp_init 19 = .ok (.aload_n 0, 1) := by decide +kernel
theorem d_Sp_init_20 : decode b_Sp_init 20 = .ok (.new 22, 3) := by decide +kernel
theorem d_Sp_init_23 : decode b_Sp_init 23 = .ok (.dup, 1) := by decide +kernel
theorem d_Sp_init_24 : decode b_Sp_init 24 = .ok (.bipush 16, 2) := by decide +kernel
theorem d_Sp_init_26 : decode b_Sp_init 26 = .ok (.invokespecial 24, 3) := by decide +kernel
theorem d_Sp_init_29 : decode b_Sp_init 29 = .ok (.putfield 27, 3) := by decide +kernel
theorem d_Sp_init_32 : decode b_Sp_init 32 = .ok (.aload_n 0, 1) := by decide +kernel
theorem d_Sp_init_33 : decode b_Sp_init 33 = .ok (.bipush 81, 2) := by decide +kernel
theorem d_Sp_init_35 : decode b_Sp_init 35 = .ok (.newarray .int, 2) := by decide +kernel
theorem d_Sp_init_37 : decode b_Sp_init 37 = .ok (.putfield 31, 3) := by decide +kernel
theorem d_Sp_init_40 : decode b_Sp_init 40 = .ok (.aload_n 0, 1) := by decide +kernel
theorem d_Sp_init_41 : decode b_Sp_init 41 = .ok (.new 22, 3) := by decide +kernel
theorem d_Sp_init_44 : decode b_Sp_init 44 = .ok (.dup, 1) := by decide +kernel
theorem d_Sp_init_45 : decode b_Sp_init 45 = .ok (.sipush 2268, 3) := by decide +kernel
theorem d_Sp_init_48 : decode b_Sp_init 48 = .ok (.invokespecial 24, 3) := by decide +kernel
theorem d_Sp_init_51 : decode b_Sp_init 51 = .ok (.putfield 35, 3) := by decide +kernel
theorem d_Sp_init_54 : decode b_Sp_init 54 = .ok (.aload_n 0, 1) := by decide +kernel
theorem d_Sp_init_55 : decode b_Sp_init 55 = .ok (.new 38, 3) := by decide +kernel
theorem d_Sp_init_58 : decode b_Sp_init 58 = .ok (.dup, 1) := by decide +kernel
theorem d_Sp_init_59 : decode b_Sp_init 59 = .ok (.aload_n 0, 1) := by decide +kernel
theorem d_Sp_init_60 : decode b_Sp_init 60 = .ok (.getfield 35, 3) := by decide +kernel
theorem d_Sp_init_63 : decode b_Sp_init 63 = .ok (.bipush 81, 2) := by decide +kernel
theorem d_Sp_init_65 : decode b_Sp_init 65 = .ok (.invokespecial 40, 3) := by decide +kernel
theorem d_Sp_init_68 : decode b_Sp_init 68 = .ok (.putfield 43, 3) := by decide +kernel
theorem d_Sp_init_71 : decode b_Sp_init 71 = .ok (.return_, 1) := by decide +kernel
abbrev b_Sp_findWays : ByteArray := prog_9_method_2_code
def y_Sp_findWays : MethodName := ⟨"SpellDesk$Speller", "findWays", "(LSpellDesk$Letters;III)I"⟩
set_option maxRecDepth 20000 in
theorem Y_Sp_findWays : gh_Y y_Sp_findWays b_Sp_findWays 11 (some .int) 4 := ⟨gt_in (i := 910) rfl rfl, gt_in (i := 12) (by decide +kernel) rfl, by decide +kernel, by decide +kernel, by decide +kernel⟩
theorem V_Sp_findWays : Cond.instanceMethod y_Sp_findWays ∈ gTbl ∧ Cond.selects y_Sp_findWays.cls y_Sp_findWays y_Sp_findWays ∈ gTbl := ⟨(gt_in (i := 908) (by decide +kernel) rfl), (gt_in (i := 909) (by decide +kernel) rfl)⟩
theorem d_Sp_findWays_0 : decode b_Sp_findWays 0 = .ok (.aload_n 0, 1) := by decide +kernel
theorem d_Sp_findWays_1 : decode b_Sp_findWays 1 = .ok (.iconst 0, 1) := by decide +kernel
theorem d_Sp_findWays_2 : decode b_Sp_findWays 2 = .ok (.putfield 47, 3) := by decide +kernel
theorem d_Sp_findWays_5 : decode b_Sp_findWays 5 = .ok (.iconst 0, 1) := by decide +kernel
theorem d_Sp_findWays_6 : decode b_Sp_findWays 6 = .ok (.istore 5, 2) := by decide +kernel
theorem d_Sp_findWays_8 : decode b_Sp_findWays 8 = .ok (.iload 5, 2) := by decide +kernel
theorem d_Sp_findWays_10 : decode b_Sp_findWays 10 = .ok (.aload_n 0, 1) := by decide +kernel
theorem d_Sp_findWays_11 : decode b_Sp_findWays 11 = .ok (.getfield 15, 3) := by decide +kernel
theorem d_Sp_findWays_14 : decode b_Sp_findWays 14 = .ok (.invokevirtual 51, 3) := by decide +kernel
theorem d_Sp_findWays_17 : decode b_Sp_findWays 17 = .ok (.if_icmp .gt 199, 3) := by decide +kernel
theorem d_Sp_findWays_20 : decode b_Sp_findWays 20 = .ok (.aload_n 0, 1) := by decide +kernel
theorem d_Sp_findWays_21 : decode b_Sp_findWays 21 = .ok (.getfield 47, 3) := by decide +kernel
theorem d_Sp_findWays_24 : decode b_Sp_findWays 24 = .ok (.iload 4, 2) := by decide +kernel
theorem d_Sp_findWays_26 : decode b_Sp_findWays 26 = .ok (.if_icmp .ge 190, 3) := by decide +kernel
theorem d_Sp_findWays_29 : decode b_Sp_findWays 29 = .ok (.aload_n 0, 1) := by decide +kernel
theorem d_Sp_findWays_30 : decode b_Sp_findWays 30 = .ok (.getfield 15, 3) := by decide +kernel
theorem d_Sp_findWays_33 : decode b_Sp_findWays 33 = .ok (.iload 5, 2) := by decide +kernel
theorem d_Sp_findWays_35 : decode b_Sp_findWays 35 = .ok (.invokevirtual 57, 3) := by decide +kernel
theorem d_Sp_findWays_38 : decode b_Sp_findWays 38 = .ok (.astore 6, 2) := by decide +kernel
theorem d_Sp_findWays_40 : decode b_Sp_findWays 40 = .ok (.aload 6, 2) := by decide +kernel
theorem d_Sp_findWays_42 : decode b_Sp_findWays 42 = .ok (.aload_n 1, 1) := by decide +kernel
theorem d_Sp_findWays_43 : decode b_Sp_findWays 43 = .ok (.iload_n 2, 1) := by decide +kernel
theorem d_Sp_findWays_44 : decode b_Sp_findWays 44 = .ok (.iload_n 3, 1) := by decide +kernel
theorem d_Sp_findWays_45 : decode b_Sp_findWays 45 = .ok (.invokevirtual 61, 3) := by decide +kernel
theorem d_Sp_findWays_48 : decode b_Sp_findWays 48 = .ok (.ifCond .ne 6, 3) := by decide +kernel
theorem d_Sp_findWays_51 : decode b_Sp_findWays 51 = .ok (.goto 159, 3) := by decide +kernel
theorem d_Sp_findWays_54 : decode b_Sp_findWays 54 = .ok (.iconst 0, 1) := by decide +kernel
theorem d_Sp_findWays_55 : decode b_Sp_findWays 55 = .ok (.istore 7, 2) := by decide +kernel
theorem d_Sp_findWays_57 : decode b_Sp_findWays 57 = .ok (.iload 7, 2) := by decide +kernel
theorem d_Sp_findWays_59 : decode b_Sp_findWays 59 = .ok (.aload_n 0, 1) := by decide +kernel
theorem d_Sp_findWays_60 : decode b_Sp_findWays 60 = .ok (.getfield 19, 3) := by decide +kernel
theorem d_Sp_findWays_63 : decode b_Sp_findWays 63 = .ok (.invokevirtual 51, 3) := by decide +kernel
theorem d_Sp_findWays_66 : decode b_Sp_findWays 66 = .ok (.if_icmp .gt 144, 3) := by decide +kernel
theorem d_Sp_findWays_69 : decode b_Sp_findWays 69 = .ok (.aload_n 0, 1) := by decide +kernel
theorem d_Sp_findWays_70 : decode b_Sp_findWays 70 = .ok (.getfield 47, 3) := by decide +kernel
theorem d_Sp_findWays_73 : decode b_Sp_findWays 73 = .ok (.iload 4, 2) := by decide +kernel
theorem d_Sp_findWays_75 : decode b_Sp_findWays 75 = .ok (.if_icmp .ge 135, 3) := by decide +kernel
theorem d_Sp_findWays_78 : decode b_Sp_findWays 78 = .ok (.aload_n 0, 1) := by decide +kernel
theorem d_Sp_findWays_79 : decode b_Sp_findWays 79 = .ok (.getfield 19, 3) := by decide +kernel
theorem d_Sp_findWays_82 : decode b_Sp_findWays 82 = .ok (.iload 7, 2) := by decide +kernel
theorem d_Sp_findWays_84 : decode b_Sp_findWays 84 = .ok (.invokevirtual 57, 3) := by decide +kernel
theorem d_Sp_findWays_87 : decode b_Sp_findWays 87 = .ok (.astore 8, 2) := by decide +kernel
theorem d_Sp_findWays_89 : decode b_Sp_findWays 89 = .ok (.aload 8, 2) := by decide +kernel
theorem d_Sp_findWays_91 : decode b_Sp_findWays 91 = .ok (.aload_n 1, 1) := by decide +kernel
theorem d_Sp_findWays_92 : decode b_Sp_findWays 92 = .ok (.iload_n 2, 1) := by decide +kernel
theorem d_Sp_findWays_93 : decode b_Sp_findWays 93 = .ok (.iload_n 3, 1) := by decide +kernel
theorem d_Sp_findWays_94 : decode b_Sp_findWays 94 = .ok (.invokevirtual 61, 3) := by decide +kernel
theorem d_Sp_findWays_97 : decode b_Sp_findWays 97 = .ok (.ifCond .eq 107, 3) := by decide +kernel
theorem d_Sp_findWays_100 : decode b_Sp_findWays 100 = .ok (.aload_n 0, 1) := by decide +kernel
theorem d_Sp_findWays_101 : decode b_Sp_findWays 101 = .ok (.aload 6, 2) := by decide +kernel
theorem d_Sp_findWays_103 : decode b_Sp_findWays 103 = .ok (.aload 8, 2) := by decide +kernel
theorem d_Sp_findWays_105 : decode b_Sp_findWays 105 = .ok (.aload_n 1, 1) := by decide +kernel
theorem d_Sp_findWays_106 : decode b_Sp_findWays 106 = .ok (.iload_n 2, 1) := by decide +kernel
theorem d_Sp_findWays_107 : decode b_Sp_findWays 107 = .ok (.iload_n 3, 1) := by decide +kernel
theorem d_Sp_findWays_108 : decode b_Sp_findWays 108 = .ok (.invokevirtual 67, 3) := by decide +kernel
theorem d_Sp_findWays_111 : decode b_Sp_findWays 111 = .ok (.ifCond .ne 6, 3) := by decide +kernel
theorem d_Sp_findWays_114 : decode b_Sp_findWays 114 = .ok (.goto 90, 3) := by decide +kernel
theorem d_Sp_findWays_117 : decode b_Sp_findWays 117 = .ok (.aload_n 0, 1) := by decide +kernel
theorem d_Sp_findWays_118 : decode b_Sp_findWays 118 = .ok (.getfield 9, 3) := by decide +kernel
theorem d_Sp_findWays_121 : decode b_Sp_findWays 121 = .ok (.aload_n 0, 1) := by decide +kernel
theorem d_Sp_findWays_122 : decode b_Sp_findWays 122 = .ok (.getfield 27, 3) := by decide +kernel
theorem d_Sp_findWays_125 : decode b_Sp_findWays 125 = .ok (.iconst 0, 1) := by decide +kernel
theorem d_Sp_findWays_126 : decode b_Sp_findWays 126 = .ok (.aload_n 0, 1) := by decide +kernel
theorem d_Sp_findWays_127 : decode b_Sp_findWays 127 = .ok (.getfield 27, 3) := by decide +kernel
theorem d_Sp_findWays_130 : decode b_Sp_findWays 130 = .ok (.invokevirtual 71, 3) := by decide +kernel
theorem d_Sp_findWays_133 : decode b_Sp_findWays 133 = .ok (.invokevirtual 72, 3) := by decide +kernel
theorem d_Sp_findWays_136 : decode b_Sp_findWays 136 = .ok (.istore 9, 2) := by decide +kernel
theorem d_Sp_findWays_138 : decode b_Sp_findWays 138 = .ok (.aload_n 0, 1) := by decide +kernel
theorem d_Sp_findWays_139 : decode b_Sp_findWays 139 = .ok (.getfield 9, 3) := by decide +kernel
theorem d_Sp_findWays_142 : decode b_Sp_findWays 142 = .ok (.iload 9, 2) := by decide +kernel
theorem d_Sp_findWays_144 : decode b_Sp_findWays 144 = .ok (.aload_n 0, 1) := by decide +kernel
theorem d_Sp_findWays_145 : decode b_Sp_findWays 145 = .ok (.getfield 27, 3) := by decide +kernel
theorem d_Sp_findWays_148 : decode b_Sp_findWays 148 = .ok (.iconst 0, 1) := by decide +kernel
theorem d_Sp_findWays_149 : decode b_Sp_findWays 149 = .ok (.aload_n 0, 1) := by decide +kernel
theorem d_Sp_findWays_150 : decode b_Sp_findWays 150 = .ok (.getfield 27, 3) := by decide +kernel
theorem d_Sp_findWays_153 : decode b_Sp_findWays 153 = .ok (.invokevirtual 71, 3) := by decide +kernel
theorem d_Sp_findWays_156 : decode b_Sp_findWays 156 = .ok (.invokevirtual 78, 3) := by decide +kernel
theorem d_Sp_findWays_159 : decode b_Sp_findWays 159 = .ok (.astore 10, 2) := by decide +kernel
theorem d_Sp_findWays_161 : decode b_Sp_findWays 161 = .ok (.aload 10, 2) := by decide +kernel
theorem d_Sp_findWays_163 : decode b_Sp_findWays 163 = .ok (.ifnull 41, 3) := by decide +kernel
theorem d_Sp_findWays_166 : decode b_Sp_findWays 166 = .ok (.aload 6, 2) := by decide +kernel
theorem d_Sp_findWays_168 : decode b_Sp_findWays 168 = .ok (.aload 10, 2) := by decide +kernel
theorem d_Sp_findWays_170 : decode b_Sp_findWays 170 = .ok (.invokevirtual 81, 3) := by decide +kernel
theorem d_Sp_findWays_173 : decode b_Sp_findWays 173 = .ok (.ifCond .eq 31, 3) := by decide +kernel
theorem d_Sp_findWays_176 : decode b_Sp_findWays 176 = .ok (.aload 8, 2) := by decide +kernel
theorem d_Sp_findWays_178 : decode b_Sp_findWays 178 = .ok (.aload 10, 2) := by decide +kernel
theorem d_Sp_findWays_180 : decode b_Sp_findWays 180 = .ok (.invokevirtual 81, 3) := by decide +kernel
theorem d_Sp_findWays_183 : decode b_Sp_findWays 183 = .ok (.ifCond .eq 21, 3) := by decide +kernel
theorem d_Sp_findWays_186 : decode b_Sp_findWays 186 = .ok (.aload_n 0, 1) := by decide +kernel
theorem d_Sp_findWays_187 : decode b_Sp_findWays 187 = .ok (.iload 9, 2) := by decide +kernel
theorem d_Sp_findWays_189 : decode b_Sp_findWays 189 = .ok (.bipush 9, 2) := by decide +kernel
theorem d_Sp_findWays_191 : decode b_Sp_findWays 191 = .ok (.imul, 1) := by decide +kernel
theorem d_Sp_findWays_192 : decode b_Sp_findWays 192 = .ok (.iload 5, 2) := by decide +kernel
theorem d_Sp_findWays_194 : decode b_Sp_findWays 194 = .ok (.iadd, 1) := by decide +kernel
theorem d_Sp_findWays_195 : decode b_Sp_findWays 195 = .ok (.bipush 9, 2) := by decide +kernel
theorem d_Sp_findWays_197 : decode b_Sp_findWays 197 = .ok (.imul, 1) := by decide +kernel
theorem d_Sp_findWays_198 : decode b_Sp_findWays 198 = .ok (.iload 7, 2) := by decide +kernel
theorem d_Sp_findWays_200 : decode b_Sp_findWays 200 = .ok (.iadd, 1) := by decide +kernel
theorem d_Sp_findWays_201 : decode b_Sp_findWays 201 = .ok (.invokevirtual 85, 3) := by decide +kernel
theorem d_Sp_findWays_204 : decode b_Sp_findWays 204 = .ok (.iinc 7 1, 3) := by decide +kernel
theorem d_Sp_findWays_207 : decode b_Sp_findWays 207 = .ok (.goto (-150), 3) := by decide +kernel
theorem d_Sp_findWays_210 : decode b_Sp_findWays 210 = .ok (.iinc 5 1, 3) := by decide +kernel
theorem d_Sp_findWays_213 : decode b_Sp_findWays 213 = .ok (.goto (-205), 3) := by decide +kernel
theorem d_Sp_findWays_216 : decode b_Sp_findWays 216 = .ok (.aload_n 0, 1) := by decide +kernel
theorem d_Sp_findWays_217 : decode b_Sp_findWays 217 = .ok (.getfield 47, 3) := by decide +kernel
theorem d_Sp_findWays_220 : decode b_Sp_findWays 220 = .ok (.ireturn, 1) := by decide +kernel
abbrev b_Sp_undo : ByteArray := prog_9_method_8_code
def y_Sp_undo : MethodName := ⟨"SpellDesk$Speller", "undo", "(LSpellDesk$Rule;LSpellDesk$Rule;LSpellDesk$Letters;II)Z"⟩
set_option maxRecDepth 20000 in
theorem Y_Sp_undo : gh_Y y_Sp_undo b_Sp_undo 7 (some .boolean) 5 := ⟨gt_in (i := 930) rfl rfl, gt_in (i := 12) (by decide +kernel) rfl, by decide +kernel, by decide +kernel, by decide +kernel⟩
theorem V_Sp_undo : Cond.instanceMethod y_Sp_undo ∈ gTbl ∧ Cond.selects y_Sp_undo.cls y_Sp_undo y_Sp_undo ∈ gTbl := ⟨(gt_in (i := 929) (by decide +kernel) rfl), (gt_sel (n := 8) (i := 15) (by decide +kernel))⟩
theorem d_Sp_undo_0 : decode b_Sp_undo 0 = .ok (.iload 5, 2) := by decide +kernel
theorem d_Sp_undo_2 : decode b_Sp_undo 2 = .ok (.aload_n 1, 1) := by decide +kernel
theorem d_Sp_undo_3 : decode b_Sp_undo 3 = .ok (.getfield 111, 3) := by decide +kernel
theorem d_Sp_undo_6 : decode b_Sp_undo 6 = .ok (.invokevirtual 71, 3) := by decide +kernel
theorem d_Sp_undo_9 : decode b_Sp_undo 9 = .ok (.isub, 1) := by decide +kernel
theorem d_Sp_undo_10 : decode b_Sp_undo 10 = .ok (.aload_n 2, 1) := by decide +kernel
theorem d_Sp_undo_11 : decode b_Sp_undo 11 = .ok (.getfield 111, 3) := by decide +kernel
theorem d_Sp_undo_14 : decode b_Sp_undo 14 = .ok (.invokevirtual 71, 3) := by decide +kernel
theorem d_Sp_undo_17 : decode b_Sp_undo 17 = .ok (.isub, 1) := by decide +kernel
theorem d_Sp_undo_18 : decode b_Sp_undo 18 = .ok (.istore 6, 2) := by decide +kernel
theorem d_Sp_undo_20 : decode b_Sp_undo 20 = .ok (.iload 6, 2) := by decide +kernel
theorem d_Sp_undo_22 : decode b_Sp_undo 22 = .ok (.iconst 1, 1) := by decide +kernel
theorem d_Sp_undo_23 : decode b_Sp_undo 23 = .ok (.if_icmp .lt 26, 3) := by decide +kernel
theorem d_Sp_undo_26 : decode b_Sp_undo 26 = .ok (.aload_n 1, 1) := by decide +kernel
theorem d_Sp_undo_27 : decode b_Sp_undo 27 = .ok (.getfield 108, 3) := by decide +kernel
theorem d_Sp_undo_30 : decode b_Sp_undo 30 = .ok (.invokevirtual 71, 3) := by decide +kernel
theorem d_Sp_undo_33 : decode b_Sp_undo 33 = .ok (.iload 6, 2) := by decide +kernel
theorem d_Sp_undo_35 : decode b_Sp_undo 35 = .ok (.iadd, 1) := by decide +kernel
theorem d_Sp_undo_36 : decode b_Sp_undo 36 = .ok (.aload_n 2, 1) := by decide +kernel
theorem d_Sp_undo_37 : decode b_Sp_undo 37 = .ok (.getfield 108, 3) := by decide +kernel
theorem d_Sp_undo_40 : decode b_Sp_undo 40 = .ok (.invokevirtual 71, 3) := by decide +kernel
theorem d_Sp_undo_43 : decode b_Sp_undo 43 = .ok (.iadd, 1) := by decide +kernel
theorem d_Sp_undo_44 : decode b_Sp_undo 44 = .ok (.bipush 16, 2) := by decide +kernel
theorem d_Sp_undo_46 : decode b_Sp_undo 46 = .ok (.if_icmp .le 5, 3) := by decide +kernel
theorem d_Sp_undo_49 : decode b_Sp_undo 49 = .ok (.iconst 0, 1) := by decide +kernel
theorem d_Sp_undo_50 : decode b_Sp_undo 50 = .ok (.ireturn, 1) := by decide +kernel
theorem d_Sp_undo_51 : decode b_Sp_undo 51 = .ok (.aload_n 0, 1) := by decide +kernel
theorem d_Sp_undo_52 : decode b_Sp_undo 52 = .ok (.getfield 27, 3) := by decide +kernel
theorem d_Sp_undo_55 : decode b_Sp_undo 55 = .ok (.invokevirtual 95, 3) := by decide +kernel
theorem d_Sp_undo_58 : decode b_Sp_undo 58 = .ok (.aload_n 0, 1) := by decide +kernel
theorem d_Sp_undo_59 : decode b_Sp_undo 59 = .ok (.getfield 27, 3) := by decide +kernel
theorem d_Sp_undo_62 : decode b_Sp_undo 62 = .ok (.aload_n 1, 1) := by decide +kernel
theorem d_Sp_undo_63 : decode b_Sp_undo 63 = .ok (.getfield 108, 3) := by decide +kernel
theorem d_Sp_undo_66 : decode b_Sp_undo 66 = .ok (.iconst 0, 1) := by decide +kernel
theorem d_Sp_undo_67 : decode b_Sp_undo 67 = .ok (.aload_n 1, 1) := by decide +kernel
theorem d_Sp_undo_68 : decode b_Sp_undo 68 = .ok (.getfield 108, 3) := by decide +kernel
theorem d_Sp_undo_71 : decode b_Sp_undo 71 = .ok (.invokevirtual 71, 3) := by decide +kernel
theorem d_Sp_undo_74 : decode b_Sp_undo 74 = .ok (.invokevirtual 114, 3) := by decide +kernel
theorem d_Sp_undo_77 : decode b_Sp_undo 77 = .ok (.aload_n 0, 1) := by decide +kernel
theorem d_Sp_undo_78 : decode b_Sp_undo 78 = .ok (.getfield 27, 3) := by decide +kernel
theorem d_Sp_undo_81 : decode b_Sp_undo 81 = .ok (.aload_n 3, 1) := by decide +kernel
theorem d_Sp_undo_82 : decode b_Sp_undo 82 = .ok (.iload 4, 2) := by decide +kernel
theorem d_Sp_undo_84 : decode b_Sp_undo 84 = .ok (.aload_n 1, 1) := by decide +kernel
theorem d_Sp_undo_85 : decode b_Sp_undo 85 = .ok (.getfield 111, 3) := by decide +kernel
theorem d_Sp_undo_88 : decode b_Sp_undo 88 = .ok (.invokevirtual 71, 3) := by decide +kernel
theorem d_Sp_undo_91 : decode b_Sp_undo 91 = .ok (.iadd, 1) := by decide +kernel
theorem d_Sp_undo_92 : decode b_Sp_undo 92 = .ok (.iload 6, 2) := by decide +kernel
theorem d_Sp_undo_94 : decode b_Sp_undo 94 = .ok (.invokevirtual 114, 3) := by decide +kernel
theorem d_Sp_undo_97 : decode b_Sp_undo 97 = .ok (.aload_n 0, 1) := by decide +kernel
theorem d_Sp_undo_98 : decode b_Sp_undo 98 = .ok (.getfield 27, 3) := by decide +kernel
theorem d_Sp_undo_101 : decode b_Sp_undo 101 = .ok (.aload_n 2, 1) := by decide +kernel
theorem d_Sp_undo_102 : decode b_Sp_undo 102 = .ok (.getfield 108, 3) := by decide +kernel
theorem d_Sp_undo_105 : decode b_Sp_undo 105 = .ok (.iconst 0, 1) := by decide +kernel
theorem d_Sp_undo_106 : decode b_Sp_undo 106 = .ok (.aload_n 2, 1) := by decide +kernel
theorem d_Sp_undo_107 : decode b_Sp_undo 107 = .ok (.getfield 108, 3) := by decide +kernel
theorem d_Sp_undo_110 : decode b_Sp_undo 110 = .ok (.invokevirtual 71, 3) := by decide +kernel
theorem d_Sp_undo_113 : decode b_Sp_undo 113 = .ok (.invokevirtual 114, 3) := by decide +kernel
theorem d_Sp_undo_116 : decode b_Sp_undo 116 = .ok (.iconst 1, 1) := by decide +kernel
theorem d_Sp_undo_117 : decode b_Sp_undo 117 = .ok (.ireturn, 1) := by decide +kernel
abbrev b_Sp_putWay : ByteArray := prog_9_method_9_code
def y_Sp_putWay : MethodName := ⟨"SpellDesk$Speller", "putWay", "(I)V"⟩
set_option maxRecDepth 20000 in
theorem Y_Sp_putWay : gh_Y y_Sp_putWay b_Sp_putWay 3 none 1 := ⟨gt_in (i := 949) rfl rfl, gt_in (i := 12) (by decide +kernel) rfl, by decide +kernel, by decide +kernel, by decide +kernel⟩
theorem V_Sp_putWay : Cond.instanceMethod y_Sp_putWay ∈ gTbl ∧ Cond.selects y_Sp_putWay.cls y_Sp_putWay y_Sp_putWay ∈ gTbl := ⟨(gt_in (i := 948) (by decide +kernel) rfl), (gt_sel (n := 8) (i := 16) (by decide +kernel))⟩
theorem d_Sp_putWay_0 : decode b_Sp_putWay 0 = .ok (.aload_n 0, 1) := by decide +kernel
theorem d_Sp_putWay_1 : decode b_Sp_putWay 1 = .ok (.getfield 47, 3) := by decide +kernel
theorem d_Sp_putWay_4 : decode b_Sp_putWay 4 = .ok (.aload_n 0, 1) := by decide +kernel
theorem d_Sp_putWay_5 : decode b_Sp_putWay 5 = .ok (.getfield 31, 3) := by decide +kernel
theorem d_Sp_putWay_8 : decode b_Sp_putWay 8 = .ok (.arraylength, 1) := by decide +kernel
theorem d_Sp_putWay_9 : decode b_Sp_putWay 9 = .ok (.if_icmp .lt 4, 3) := by decide +kernel
theorem d_Sp_putWay_12 : decode b_Sp_putWay 12 = .ok (.return_, 1) := by decide +kernel
theorem d_Sp_putWay_13 : decode b_Sp_putWay 13 = .ok (.aload_n 0, 1) := by decide +kernel
theorem d_Sp_putWay_14 : decode b_Sp_putWay 14 = .ok (.getfield 47, 3) := by decide +kernel
theorem d_Sp_putWay_17 : decode b_Sp_putWay 17 = .ok (.istore_n 2, 1) := by decide +kernel
theorem d_Sp_putWay_18 : decode b_Sp_putWay 18 = .ok (.iload_n 2, 1) := by decide +kernel
theorem d_Sp_putWay_19 : decode b_Sp_putWay 19 = .ok (.ifCond .le 35, 3) := by decide +kernel
theorem d_Sp_putWay_22 : decode b_Sp_putWay 22 = .ok (.aload_n 0, 1) := by decide +kernel
theorem d_Sp_putWay_23 : decode b_Sp_putWay 23 = .ok (.getfield 31, 3) := by decide +kernel
theorem d_Sp_putWay_26 : decode b_Sp_putWay 26 = .ok (.iload_n 2, 1) := by decide +kernel
theorem d_Sp_putWay_27 : decode b_Sp_putWay 27 = .ok (.iconst 1, 1) := by decide +kernel
theorem d_Sp_putWay_28 : decode b_Sp_putWay 28 = .ok (.isub, 1) := by decide +kernel
theorem d_Sp_putWay_29 : decode b_Sp_putWay 29 = .ok (.iaload, 1) := by decide +kernel
theorem d_Sp_putWay_30 : decode b_Sp_putWay 30 = .ok (.iload_n 1, 1) := by decide +kernel
theorem d_Sp_putWay_31 : decode b_Sp_putWay 31 = .ok (.if_icmp .le 23, 3) := by decide +kernel
theorem d_Sp_putWay_34 : decode b_Sp_putWay 34 = .ok (.aload_n 0, 1) := by decide +kernel
theorem d_Sp_putWay_35 : decode b_Sp_putWay 35 = .ok (.getfield 31, 3) := by decide +kernel
theorem d_Sp_putWay_38 : decode b_Sp_putWay 38 = .ok (.iload_n 2, 1) := by decide +kernel
theorem d_Sp_putWay_39 : decode b_Sp_putWay 39 = .ok (.aload_n 0, 1) := by decide +kernel
theorem d_Sp_putWay_40 : decode b_Sp_putWay 40 = .ok (.getfield 31, 3) := by decide +kernel
theorem d_Sp_putWay_43 : decode b_Sp_putWay 43 = .ok (.iload_n 2, 1) := by decide +kernel
theorem d_Sp_putWay_44 : decode b_Sp_putWay 44 = .ok (.iconst 1, 1) := by decide +kernel
theorem d_Sp_putWay_45 : decode b_Sp_putWay 45 = .ok (.isub, 1) := by decide +kernel
theorem d_Sp_putWay_46 : decode b_Sp_putWay 46 = .ok (.iaload, 1) := by decide +kernel
theorem d_Sp_putWay_47 : decode b_Sp_putWay 47 = .ok (.iastore, 1) := by decide +kernel
theorem d_Sp_putWay_48 : decode b_Sp_putWay 48 = .ok (.iinc 2 (-1), 3) := by decide +kernel
theorem d_Sp_putWay_51 : decode b_Sp_putWay 51 = .ok (.goto (-33), 3) := by decide +kernel
theorem d_Sp_putWay_54 : decode b_Sp_putWay 54 = .ok (.aload_n 0, 1) := by decide +kernel
theorem d_Sp_putWay_55 : decode b_Sp_putWay 55 = .ok (.getfield 31, 3) := by decide +kernel
theorem d_Sp_putWay_58 : decode b_Sp_putWay 58 = .ok (.iload_n 2, 1) := by decide +kernel
theorem d_Sp_putWay_59 : decode b_Sp_putWay 59 = .ok (.iload_n 1, 1) := by decide +kernel
theorem d_Sp_putWay_60 : decode b_Sp_putWay 60 = .ok (.iastore, 1) := by decide +kernel
theorem d_Sp_putWay_61 : decode b_Sp_putWay 61 = .ok (.aload_n 0, 1) := by decide +kernel
theorem d_Sp_putWay_62 : decode b_Sp_putWay 62 = .ok (.dup, 1) := by decide +kernel
theorem d_Sp_putWay_63 : decode b_Sp_putWay 63 = .ok (.getfield 47, 3) := by decide +kernel
theorem d_Sp_putWay_66 : decode b_Sp_putWay 66 = .ok (.iconst 1, 1) := by decide +kernel
theorem d_Sp_putWay_67 : decode b_Sp_putWay 67 = .ok (.iadd, 1) := by decide +kernel
theorem d_Sp_putWay_68 : decode b_Sp_putWay 68 = .ok (.putfield 47, 3) := by decide +kernel
theorem d_Sp_putWay_71 : decode b_Sp_putWay 71 = .ok (.return_, 1) := by decide +kernel
abbrev b_Sp_entryOfWay : ByteArray := prog_9_method_3_code
def y_Sp_entryOfWay : MethodName := ⟨"SpellDesk$Speller", "entryOfWay", "(I)LSpellDesk$Entry;"⟩
set_option maxRecDepth 20000 in
theorem Y_Sp_entryOfWay : gh_Y y_Sp_entryOfWay b_Sp_entryOfWay 2 (some (.object "SpellDesk$Entry")) 1 := ⟨gt_in (i := 987) rfl rfl, gt_in (i := 12) (by decide +kernel) rfl, by decide +kernel, by decide +kernel, by decide +kernel⟩
theorem V_Sp_entryOfWay : Cond.instanceMethod y_Sp_entryOfWay ∈ gTbl ∧ Cond.selects y_Sp_entryOfWay.cls y_Sp_entryOfWay y_Sp_entryOfWay ∈ gTbl := ⟨(gt_in (i := 985) (by decide +kernel) rfl), (gt_in (i := 986) (by decide +kernel) rfl)⟩
theorem d_Sp_entryOfWay_0 : decode b_Sp_entryOfWay 0 = .ok (.aload_n 0, 1) := by decide +kernel
theorem d_Sp_entryOfWay_1 : decode b_Sp_entryOfWay 1 = .ok (.getfield 9, 3) := by decide +kernel
theorem d_Sp_entryOfWay_4 : decode b_Sp_entryOfWay 4 = .ok (.aload_n 0, 1) := by decide +kernel
theorem d_Sp_entryOfWay_5 : decode b_Sp_entryOfWay 5 = .ok (.iload_n 1, 1) := by decide +kernel
theorem d_Sp_entryOfWay_6 : decode b_Sp_entryOfWay 6 = .ok (.invokevirtual 88, 3) := by decide +kernel
theorem d_Sp_entryOfWay_9 : decode b_Sp_entryOfWay 9 = .ok (.bipush 81, 2) := by decide +kernel
theorem d_Sp_entryOfWay_11 : decode b_Sp_entryOfWay 11 = .ok (.idiv, 1) := by decide +kernel
theorem d_Sp_entryOfWay_12 : decode b_Sp_entryOfWay 12 = .ok (.invokevirtual 92, 3) := by decide +kernel
theorem d_Sp_entryOfWay_15 : decode b_Sp_entryOfWay 15 = .ok (.areturn, 1) := by decide +kernel
abbrev b_Sp_way : ByteArray := prog_9_method_10_code
def y_Sp_way : MethodName := ⟨"SpellDesk$Speller", "way", "(I)I"⟩
set_option maxRecDepth 20000 in
theorem Y_Sp_way : gh_Y y_Sp_way b_Sp_way 2 (some .int) 1 := ⟨gt_in (i := 991) rfl rfl, gt_in (i := 12) (by decide +kernel) rfl, by decide +kernel, by decide +kernel, by decide +kernel⟩
theorem V_Sp_way : Cond.instanceMethod y_Sp_way ∈ gTbl ∧ Cond.selects y_Sp_way.cls y_Sp_way y_Sp_way ∈ gTbl := ⟨(gt_in (i := 990) (by decide +kernel) rfl), (gt_sel (n := 8) (i := 19) (by decide +kernel))⟩
theorem d_Sp_way_0 : decode b_Sp_way 0 = .ok (.iload_n 1, 1) := by decide +kernel
theorem d_Sp_way_1 : decode b_Sp_way 1 = .ok (.ifCond .lt 20, 3) := by decide +kernel
theorem d_Sp_way_4 : decode b_Sp_way 4 = .ok (.iload_n 1, 1) := by decide +kernel
theorem d_Sp_way_5 : decode b_Sp_way 5 = .ok (.aload_n 0, 1) := by decide +kernel
theorem d_Sp_way_6 : decode b_Sp_way 6 = .ok (.getfield 47, 3) := by decide +kernel
theorem d_Sp_way_9 : decode b_Sp_way 9 = .ok (.if_icmp .ge 12, 3) := by decide +kernel
theorem d_Sp_way_12 : decode b_Sp_way 12 = .ok (.aload_n 0, 1) := by decide +kernel
theorem d_Sp_way_13 : decode b_Sp_way 13 = .ok (.getfield 31, 3) := by decide +kernel
theorem d_Sp_way_16 : decode b_Sp_way 16 = .ok (.iload_n 1, 1) := by decide +kernel
theorem d_Sp_way_17 : decode b_Sp_way 17 = .ok (.iaload, 1) := by decide +kernel
theorem d_Sp_way_18 : decode b_Sp_way 18 = .ok (.goto 4, 3) := by decide +kernel
theorem d_Sp_way_21 : decode b_Sp_way 21 = .ok (.iconst 0, 1) := by decide +kernel
theorem d_Sp_way_22 : decode b_Sp_way 22 = .ok (.ireturn, 1) := by decide +kernel
abbrev b_Sp_prefixOfWay : ByteArray := prog_9_method_4_code
def y_Sp_prefixOfWay : MethodName := ⟨"SpellDesk$Speller", "prefixOfWay", "(I)I"⟩
set_option maxRecDepth 20000 in
theorem Y_Sp_prefixOfWay : gh_Y y_Sp_prefixOfWay b_Sp_prefixOfWay 2 (some .int) 1 := ⟨gt_in (i := 996) rfl rfl, gt_in (i := 12) (by decide +kernel) rfl, by decide +kernel, by decide +kernel, by decide +kernel⟩
theorem V_Sp_prefixOfWay : Cond.instanceMethod y_Sp_prefixOfWay ∈ gTbl ∧ Cond.selects y_Sp_prefixOfWay.cls y_Sp_prefixOfWay y_Sp_prefixOfWay ∈ gTbl := ⟨(gt_in (i := 994) (by decide +kernel) rfl), (gt_in (i := 995) (by decide +kernel) rfl)⟩
theorem d_Sp_prefixOfWay_0 : decode b_Sp_prefixOfWay 0 = .ok (.aload_n 0, 1) := by decide +kernel
theorem d_Sp_prefixOfWay_1 : decode b_Sp_prefixOfWay 1 = .ok (.iload_n 1, 1) := by decide +kernel
theorem d_Sp_prefixOfWay_2 : decode b_Sp_prefixOfWay 2 = .ok (.invokevirtual 88, 3) := by decide +kernel
theorem d_Sp_prefixOfWay_5 : decode b_Sp_prefixOfWay 5 = .ok (.bipush 9, 2) := by decide +kernel
theorem d_Sp_prefixOfWay_7 : decode b_Sp_prefixOfWay 7 = .ok (.idiv, 1) := by decide +kernel
theorem d_Sp_prefixOfWay_8 : decode b_Sp_prefixOfWay 8 = .ok (.bipush 9, 2) := by decide +kernel
theorem d_Sp_prefixOfWay_10 : decode b_Sp_prefixOfWay 10 = .ok (.irem, 1) := by decide +kernel
theorem d_Sp_prefixOfWay_11 : decode b_Sp_prefixOfWay 11 = .ok (.ireturn, 1) := by decide +kernel
abbrev b_Sp_suffixOfWay : ByteArray := prog_9_method_5_code
def y_Sp_suffixOfWay : MethodName := ⟨"SpellDesk$Speller", "suffixOfWay", "(I)I"⟩
set_option maxRecDepth 20000 in
theorem Y_Sp_suffixOfWay : gh_Y y_Sp_suffixOfWay b_Sp_suffixOfWay 2 (some .int) 1 := ⟨gt_in (i := 1000) rfl rfl, gt_in (i := 12) (by decide +kernel) rfl, by decide +kernel, by decide +kernel, by decide +kernel⟩
theorem V_Sp_suffixOfWay : Cond.instanceMethod y_Sp_suffixOfWay ∈ gTbl ∧ Cond.selects y_Sp_suffixOfWay.cls y_Sp_suffixOfWay y_Sp_suffixOfWay ∈ gTbl := ⟨(gt_in (i := 998) (by decide +kernel) rfl), (gt_in (i := 999) (by decide +kernel) rfl)⟩
theorem d_Sp_suffixOfWay_0 : decode b_Sp_suffixOfWay 0 = .ok (.aload_n 0, 1) := by decide +kernel
theorem d_Sp_suffixOfWay_1 : decode b_Sp_suffixOfWay 1 = .ok (.iload_n 1, 1) := by decide +kernel
theorem d_Sp_suffixOfWay_2 : decode b_Sp_suffixOfWay 2 = .ok (.invokevirtual 88, 3) := by decide +kernel
theorem d_Sp_suffixOfWay_5 : decode b_Sp_suffixOfWay 5 = .ok (.bipush 9, 2) := by decide +kernel
theorem d_Sp_suffixOfWay_7 : decode b_Sp_suffixOfWay 7 = .ok (.irem, 1) := by decide +kernel
theorem d_Sp_suffixOfWay_8 : decode b_Sp_suffixOfWay 8 = .ok (.ireturn, 1) := by decide +kernel
abbrev b_Sp_formsOf : ByteArray := prog_9_method_6_code
def y_Sp_formsOf : MethodName := ⟨"SpellDesk$Speller", "formsOf", "(LSpellDesk$Entry;)LSpellDesk$WordList;"⟩
set_option maxRecDepth 20000 in
theorem Y_Sp_formsOf : gh_Y y_Sp_formsOf b_Sp_formsOf 6 (some (.object "SpellDesk$WordList")) 1 := ⟨gt_in (i := 1022) rfl rfl, gt_in (i := 12) (by decide +kernel) rfl, by decide +kernel, by decide +kernel, by decide +kernel⟩
theorem V_Sp_formsOf : Cond.instanceMethod y_Sp_formsOf ∈ gTbl ∧ Cond.selects y_Sp_formsOf.cls y_Sp_formsOf y_Sp_formsOf ∈ gTbl := ⟨(gt_in (i := 1020) (by decide +kernel) rfl), (gt_in (i := 1021) (by decide +kernel) rfl)⟩
theorem d_Sp_formsOf_0 : decode b_Sp_formsOf 0 = .ok (.aload_n 0, 1) := by decide +kernel
theorem d_Sp_formsOf_1 : decode b_Sp_formsOf 1 = .ok (.getfield 35, 3) := by decide +kernel
theorem d_Sp_formsOf_4 : decode b_Sp_formsOf 4 = .ok (.invokevirtual 95, 3) := by decide +kernel
theorem d_Sp_formsOf_7 : decode b_Sp_formsOf 7 = .ok (.aload_n 0, 1) := by decide +kernel
theorem d_Sp_formsOf_8 : decode b_Sp_formsOf 8 = .ok (.getfield 43, 3) := by decide +kernel
theorem d_Sp_formsOf_11 : decode b_Sp_formsOf 11 = .ok (.invokevirtual 98, 3) := by decide +kernel
theorem d_Sp_formsOf_14 : decode b_Sp_formsOf 14 = .ok (.iconst 0, 1) := by decide +kernel
theorem d_Sp_formsOf_15 : decode b_Sp_formsOf 15 = .ok (.istore_n 2, 1) := by decide +kernel
theorem d_Sp_formsOf_16 : decode b_Sp_formsOf 16 = .ok (.iload_n 2, 1) := by decide +kernel
theorem d_Sp_formsOf_17 : decode b_Sp_formsOf 17 = .ok (.aload_n 0, 1) := by decide +kernel
theorem d_Sp_formsOf_18 : decode b_Sp_formsOf 18 = .ok (.getfield 15, 3) := by decide +kernel
theorem d_Sp_formsOf_21 : decode b_Sp_formsOf 21 = .ok (.invokevirtual 51, 3) := by decide +kernel
theorem d_Sp_formsOf_24 : decode b_Sp_formsOf 24 = .ok (.if_icmp .gt 78, 3) := by decide +kernel
theorem d_Sp_formsOf_27 : decode b_Sp_formsOf 27 = .ok (.aload_n 0, 1) := by decide +kernel
theorem d_Sp_formsOf_28 : decode b_Sp_formsOf 28 = .ok (.getfield 15, 3) := by decide +kernel
theorem d_Sp_formsOf_31 : decode b_Sp_formsOf 31 = .ok (.iload_n 2, 1) := by decide +kernel
theorem d_Sp_formsOf_32 : decode b_Sp_formsOf 32 = .ok (.invokevirtual 57, 3) := by decide +kernel
theorem d_Sp_formsOf_35 : decode b_Sp_formsOf 35 = .ok (.astore_n 3, 1) := by decide +kernel
theorem d_Sp_formsOf_36 : decode b_Sp_formsOf 36 = .ok (.aload_n 3, 1) := by decide +kernel
theorem d_Sp_formsOf_37 : decode b_Sp_formsOf 37 = .ok (.aload_n 1, 1) := by decide +kernel
theorem d_Sp_formsOf_38 : decode b_Sp_formsOf 38 = .ok (.invokevirtual 81, 3) := by decide +kernel
theorem d_Sp_formsOf_41 : decode b_Sp_formsOf 41 = .ok (.ifCond .ne 6, 3) := by decide +kernel
theorem d_Sp_formsOf_44 : decode b_Sp_formsOf 44 = .ok (.goto 52, 3) := by decide +kernel
theorem d_Sp_formsOf_47 : decode b_Sp_formsOf 47 = .ok (.iconst 0, 1) := by decide +kernel
theorem d_Sp_formsOf_48 : decode b_Sp_formsOf 48 = .ok (.istore 4, 2) := by decide +kernel
theorem d_Sp_formsOf_50 : decode b_Sp_formsOf 50 = .ok (.iload 4, 2) := by decide +kernel
theorem d_Sp_formsOf_52 : decode b_Sp_formsOf 52 = .ok (.aload_n 0, 1) := by decide +kernel
theorem d_Sp_formsOf_53 : decode b_Sp_formsOf 53 = .ok (.getfield 19, 3) := by decide +kernel
theorem d_Sp_formsOf_56 : decode b_Sp_formsOf 56 = .ok (.invokevirtual 51, 3) := by decide +kernel
theorem d_Sp_formsOf_59 : decode b_Sp_formsOf 59 = .ok (.if_icmp .gt 37, 3) := by decide +kernel
theorem d_Sp_formsOf_62 : decode b_Sp_formsOf 62 = .ok (.aload_n 0, 1) := by decide +kernel
theorem d_Sp_formsOf_63 : decode b_Sp_formsOf 63 = .ok (.getfield 19, 3) := by decide +kernel
theorem d_Sp_formsOf_66 : decode b_Sp_formsOf 66 = .ok (.iload 4, 2) := by decide +kernel
theorem d_Sp_formsOf_68 : decode b_Sp_formsOf 68 = .ok (.invokevirtual 57, 3) := by decide +kernel
theorem d_Sp_formsOf_71 : decode b_Sp_formsOf 71 = .ok (.astore 5, 2) := by decide +kernel
theorem d_Sp_formsOf_73 : decode b_Sp_formsOf 73 = .ok (.aload 5, 2) := by decide +kernel
theorem d_Sp_formsOf_75 : decode b_Sp_formsOf 75 = .ok (.aload_n 1, 1) := by decide +kernel
theorem d_Sp_formsOf_76 : decode b_Sp_formsOf 76 = .ok (.invokevirtual 81, 3) := by decide +kernel
theorem d_Sp_formsOf_79 : decode b_Sp_formsOf 79 = .ok (.ifCond .eq 11, 3) := by decide +kernel
theorem d_Sp_formsOf_82 : decode b_Sp_formsOf 82 = .ok (.aload_n 0, 1) := by decide +kernel
theorem d_Sp_formsOf_83 : decode b_Sp_formsOf 83 = .ok (.aload_n 1, 1) := by decide +kernel
theorem d_Sp_formsOf_84 : decode b_Sp_formsOf 84 = .ok (.aload_n 3, 1) := by decide +kernel
theorem d_Sp_formsOf_85 : decode b_Sp_formsOf 85 = .ok (.aload 5, 2) := by decide +kernel
theorem d_Sp_formsOf_87 : decode b_Sp_formsOf 87 = .ok (.invokevirtual 99, 3) := by decide +kernel
theorem d_Sp_formsOf_90 : decode b_Sp_formsOf 90 = .ok (.iinc 4 1, 3) := by decide +kernel
theorem d_Sp_formsOf_93 : decode b_Sp_formsOf 93 = .ok (.goto (-43), 3) := by decide +kernel
theorem d_Sp_formsOf_96 : decode b_Sp_formsOf 96 = .ok (.iinc 2 1, 3) := by decide +kernel
theorem d_Sp_formsOf_99 : decode b_Sp_formsOf 99 = .ok (.goto (-83), 3) := by decide +kernel
theorem d_Sp_formsOf_102 : decode b_Sp_formsOf 102 = .ok (.aload_n 0, 1) := by decide +kernel
theorem d_Sp_formsOf_103 : decode b_Sp_formsOf 103 = .ok (.getfield 43, 3) := by decide +kernel
theorem d_Sp_formsOf_106 : decode b_Sp_formsOf 106 = .ok (.areturn, 1) := by decide +kernel
abbrev b_Sp_putForm : ByteArray := prog_9_method_7_code
def y_Sp_putForm : MethodName := ⟨"SpellDesk$Speller", "putForm", "(LSpellDesk$Entry;LSpellDesk$Rule;LSpellDesk$Rule;)V"⟩
set_option maxRecDepth 20000 in
theorem Y_Sp_putForm : gh_Y y_Sp_putForm b_Sp_putForm 6 none 3 := ⟨gt_in (i := 1027) rfl rfl, gt_in (i := 12) (by decide +kernel) rfl, by decide +kernel, by decide +kernel, by decide +kernel⟩
theorem V_Sp_putForm : Cond.instanceMethod y_Sp_putForm ∈ gTbl ∧ Cond.selects y_Sp_putForm.cls y_Sp_putForm y_Sp_putForm ∈ gTbl := ⟨(gt_in (i := 1026) (by decide +kernel) rfl), (gt_sel (n := 8) (i := 22) (by decide +kernel))⟩
theorem d_Sp_putForm_0 : decode b_Sp_putForm 0 = .ok (.aload_n 1, 1) := by decide +kernel
theorem d_Sp_putForm_1 : decode b_Sp_putForm 1 = .ok (.getfield 103, 3) := by decide +kernel
theorem d_Sp_putForm_4 : decode b_Sp_putForm 4 = .ok (.invokevirtual 71, 3) := by decide +kernel
theorem d_Sp_putForm_7 : decode b_Sp_putForm 7 = .ok (.aload_n 2, 1) := by decide +kernel
theorem d_Sp_putForm_8 : decode b_Sp_putForm 8 = .ok (.getfield 108, 3) := by decide +kernel
theorem d_Sp_putForm_11 : decode b_Sp_putForm 11 = .ok (.invokevirtual 71, 3) := by decide +kernel
theorem d_Sp_putForm_14 : decode b_Sp_putForm 14 = .ok (.isub, 1) := by decide +kernel
theorem d_Sp_putForm_15 : decode b_Sp_putForm 15 = .ok (.aload_n 3, 1) := by decide +kernel
theorem d_Sp_putForm_16 : decode b_Sp_putForm 16 = .ok (.getfield 108, 3) := by decide +kernel
theorem d_Sp_putForm_19 : decode b_Sp_putForm 19 = .ok (.invokevirtual 71, 3) := by decide +kernel
theorem d_Sp_putForm_22 : decode b_Sp_putForm 22 = .ok (.isub, 1) := by decide +kernel
theorem d_Sp_putForm_23 : decode b_Sp_putForm 23 = .ok (.istore 4, 2) := by decide +kernel
theorem d_Sp_putForm_25 : decode b_Sp_putForm 25 = .ok (.iload 4, 2) := by decide +kernel
theorem d_Sp_putForm_27 : decode b_Sp_putForm 27 = .ok (.iconst 1, 1) := by decide +kernel
theorem d_Sp_putForm_28 : decode b_Sp_putForm 28 = .ok (.if_icmp .ge 4, 3) := by decide +kernel
theorem d_Sp_putForm_31 : decode b_Sp_putForm 31 = .ok (.return_, 1) := by decide +kernel
theorem d_Sp_putForm_32 : decode b_Sp_putForm 32 = .ok (.aload_n 0, 1) := by decide +kernel
theorem d_Sp_putForm_33 : decode b_Sp_putForm 33 = .ok (.getfield 35, 3) := by decide +kernel
theorem d_Sp_putForm_36 : decode b_Sp_putForm 36 = .ok (.invokevirtual 71, 3) := by decide +kernel
theorem d_Sp_putForm_39 : decode b_Sp_putForm 39 = .ok (.istore 5, 2) := by decide +kernel
theorem d_Sp_putForm_41 : decode b_Sp_putForm 41 = .ok (.aload_n 0, 1) := by decide +kernel
theorem d_Sp_putForm_42 : decode b_Sp_putForm 42 = .ok (.getfield 35, 3) := by decide +kernel
theorem d_Sp_putForm_45 : decode b_Sp_putForm 45 = .ok (.aload_n 2, 1) := by decide +kernel
theorem d_Sp_putForm_46 : decode b_Sp_putForm 46 = .ok (.getfield 111, 3) := by decide +kernel
theorem d_Sp_putForm_49 : decode b_Sp_putForm 49 = .ok (.iconst 0, 1) := by decide +kernel
theorem d_Sp_putForm_50 : decode b_Sp_putForm 50 = .ok (.aload_n 2, 1) := by decide +kernel
theorem d_Sp_putForm_51 : decode b_Sp_putForm 51 = .ok (.getfield 111, 3) := by decide +kernel
theorem d_Sp_putForm_54 : decode b_Sp_putForm 54 = .ok (.invokevirtual 71, 3) := by decide +kernel
theorem d_Sp_putForm_57 : decode b_Sp_putForm 57 = .ok (.invokevirtual 114, 3) := by decide +kernel
theorem d_Sp_putForm_60 : decode b_Sp_putForm 60 = .ok (.aload_n 0, 1) := by decide +kernel
theorem d_Sp_putForm_61 : decode b_Sp_putForm 61 = .ok (.getfield 35, 3) := by decide +kernel
theorem d_Sp_putForm_64 : decode b_Sp_putForm 64 = .ok (.aload_n 1, 1) := by decide +kernel
theorem d_Sp_putForm_65 : decode b_Sp_putForm 65 = .ok (.getfield 103, 3) := by decide +kernel
theorem d_Sp_putForm_68 : decode b_Sp_putForm 68 = .ok (.aload_n 2, 1) := by decide +kernel
theorem d_Sp_putForm_69 : decode b_Sp_putForm 69 = .ok (.getfield 108, 3) := by decide +kernel
theorem d_Sp_putForm_72 : decode b_Sp_putForm 72 = .ok (.invokevirtual 71, 3) := by decide +kernel
theorem d_Sp_putForm_75 : decode b_Sp_putForm 75 = .ok (.iload 4, 2) := by decide +kernel
theorem d_Sp_putForm_77 : decode b_Sp_putForm 77 = .ok (.invokevirtual 114, 3) := by decide +kernel
theorem d_Sp_putForm_80 : decode b_Sp_putForm 80 = .ok (.aload_n 0, 1) := by decide +kernel
theorem d_Sp_putForm_81 : decode b_Sp_putForm 81 = .ok (.getfield 35, 3) := by decide +kernel
theorem d_Sp_putForm_84 : decode b_Sp_putForm 84 = .ok (.aload_n 3, 1) := by decide +kernel
theorem d_Sp_putForm_85 : decode b_Sp_putForm 85 = .ok (.getfield 111, 3) := by decide +kernel
theorem d_Sp_putForm_88 : decode b_Sp_putForm 88 = .ok (.iconst 0, 1) := by decide +kernel
theorem d_Sp_putForm_89 : decode b_Sp_putForm 89 = .ok (.aload_n 3, 1) := by decide +kernel
theorem d_Sp_putForm_90 : decode b_Sp_putForm 90 = .ok (.getfield 111, 3) := by decide +kernel
theorem d_Sp_putForm_93 : decode b_Sp_putForm 93 = .ok (.invokevirtual 71, 3) := by decide +kernel
theorem d_Sp_putForm_96 : decode b_Sp_putForm 96 = .ok (.invokevirtual 114, 3) := by decide +kernel
theorem d_Sp_putForm_99 : decode b_Sp_putForm 99 = .ok (.aload_n 0, 1) := by decide +kernel
theorem d_Sp_putForm_100 : decode b_Sp_putForm 100 = .ok (.getfield 43, 3) := by decide +kernel
theorem d_Sp_putForm_103 : decode b_Sp_putForm 103 = .ok (.iload 5, 2) := by decide +kernel
theorem d_Sp_putForm_105 : decode b_Sp_putForm 105 = .ok (.aload_n 0, 1) := by decide +kernel
theorem d_Sp_putForm_106 : decode b_Sp_putForm 106 = .ok (.getfield 35, 3) := by decide +kernel
theorem d_Sp_putForm_109 : decode b_Sp_putForm 109 = .ok (.invokevirtual 71, 3) := by decide +kernel
theorem d_Sp_putForm_112 : decode b_Sp_putForm 112 = .ok (.iload 5, 2) := by decide +kernel
theorem d_Sp_putForm_114 : decode b_Sp_putForm 114 = .ok (.isub, 1) := by decide +kernel
theorem d_Sp_putForm_115 : decode b_Sp_putForm 115 = .ok (.invokevirtual 118, 3) := by decide +kernel
theorem d_Sp_putForm_118 : decode b_Sp_putForm 118 = .ok (.return_, 1) := by decide +kernel
theorem kf_Sp_9 : Cond.fieldLink "SpellDesk$Speller" 9 "SpellDesk$Speller" "dictionary" "LSpellDesk$Dictionary;" ∈ gTbl := (gt_in (i := 212) (by decide +kernel) rfl)
theorem kf_Sp_15 : Cond.fieldLink "SpellDesk$Speller" 15 "SpellDesk$Speller" "prefixes" "LSpellDesk$RuleList;" ∈ gTbl := (gt_in (i := 213) (by decide +kernel) rfl)
theorem kf_Sp_19 : Cond.fieldLink "SpellDesk$Speller" 19 "SpellDesk$Speller" "suffixes" "LSpellDesk$RuleList;" ∈ gTbl := (gt_in (i := 214) (by decide +kernel) rfl)
theorem kf_Sp_27 : Cond.fieldLink "SpellDesk$Speller" 27 "SpellDesk$Speller" "base" "LSpellDesk$Letters;" ∈ gTbl := (gt_in (i := 215) (by decide +kernel) rfl)
theorem kf_Sp_31 : Cond.fieldLink "SpellDesk$Speller" 31 "SpellDesk$Speller" "ways" "[I" ∈ gTbl := (gt_in (i := 216) (by decide +kernel) rfl)
theorem kf_Sp_35 : Cond.fieldLink "SpellDesk$Speller" 35 "SpellDesk$Speller" "formLetters" "LSpellDesk$Letters;" ∈ gTbl := (gt_in (i := 217) (by decide +kernel) rfl)
theorem kf_Sp_43 : Cond.fieldLink "SpellDesk$Speller" 43 "SpellDesk$Speller" "forms" "LSpellDesk$WordList;" ∈ gTbl := (gt_in (i := 218) (by decide +kernel) rfl)
theorem kf_Sp_47 : Cond.fieldLink "SpellDesk$Speller" 47 "SpellDesk$Speller" "wayCount" "I" ∈ gTbl := (gt_in (i := 219) (by decide +kernel) rfl)
theorem kf_Sp_103 : Cond.fieldLink "SpellDesk$Speller" 103 "SpellDesk$Entry" "word" "LSpellDesk$Letters;" ∈ gTbl := (gt_in (i := 444) (by decide +kernel) rfl)
theorem kf_Sp_108 : Cond.fieldLink "SpellDesk$Speller" 108 "SpellDesk$Rule" "strip" "LSpellDesk$Letters;" ∈ gTbl := (gt_in (i := 158) (by decide +kernel) rfl)
theorem kf_Sp_111 : Cond.fieldLink "SpellDesk$Speller" 111 "SpellDesk$Rule" "add" "LSpellDesk$Letters;" ∈ gTbl := (gt_in (i := 160) (by decide +kernel) rfl)
theorem kc_Sp_22 : Cond.classLink "SpellDesk$Speller" 22 "SpellDesk$Letters" ∈ gTbl := (gt_in (i := 189) (by decide +kernel) rfl)
theorem kc_Sp_38 : Cond.classLink "SpellDesk$Speller" 38 "SpellDesk$WordList" ∈ gTbl := (gt_in (i := 191) (by decide +kernel) rfl)
theorem km_Sp_3 : Cond.methodLink "SpellDesk$Speller" 3 ⟨"java/lang/Object", "<init>", "()V"⟩ ∈ gTbl := (gt_in (i := 188) (by decide +kernel) rfl)
theorem km_Sp_24 : Cond.methodLink "SpellDesk$Speller" 24 ⟨"SpellDesk$Letters", "<init>", "(I)V"⟩ ∈ gTbl := (gt_in (i := 190) (by decide +kernel) rfl)
theorem km_Sp_40 : Cond.methodLink "SpellDesk$Speller" 40 ⟨"SpellDesk$WordList", "<init>", "(LSpellDesk$Letters;I)V"⟩ ∈ gTbl := (gt_in (i := 193) (by decide +kernel) rfl)
theorem km_Sp_51 : Cond.methodLink "SpellDesk$Speller" 51 ⟨"SpellDesk$RuleList", "count", "()I"⟩ ∈ gTbl := (gt_in (i := 911) (by decide +kernel) rfl)
theorem km_Sp_57 : Cond.methodLink "SpellDesk$Speller" 57 ⟨"SpellDesk$RuleList", "at", "(I)LSpellDesk$Rule;"⟩ ∈ gTbl := (gt_in (i := 912) (by decide +kernel) rfl)
theorem km_Sp_61 : Cond.methodLink "SpellDesk$Speller" 61 ⟨"SpellDesk$Rule", "addStands", "(LSpellDesk$Letters;II)Z"⟩ ∈ gTbl := (gt_in (i := 917) (by decide +kernel) rfl)
theorem km_Sp_67 : Cond.methodLink "SpellDesk$Speller" 67 ⟨"SpellDesk$Speller", "undo", "(LSpellDesk$Rule;LSpellDesk$Rule;LSpellDesk$Letters;II)Z"⟩ ∈ gTbl := (gt_in (i := 927) (by decide +kernel) rfl)
theorem km_Sp_71 : Cond.methodLink "SpellDesk$Speller" 71 ⟨"SpellDesk$Letters", "count", "()I"⟩ ∈ gTbl := (gt_in (i := 931) (by decide +kernel) rfl)
theorem km_Sp_72 : Cond.methodLink "SpellDesk$Speller" 72 ⟨"SpellDesk$Dictionary", "rankOf", "(LSpellDesk$Letters;II)I"⟩ ∈ gTbl := (gt_in (i := 940) (by decide +kernel) rfl)
theorem km_Sp_78 : Cond.methodLink "SpellDesk$Speller" 78 ⟨"SpellDesk$Dictionary", "at", "(ILSpellDesk$Letters;II)LSpellDesk$Entry;"⟩ ∈ gTbl := (gt_in (i := 941) (by decide +kernel) rfl)
theorem km_Sp_81 : Cond.methodLink "SpellDesk$Speller" 81 ⟨"SpellDesk$Rule", "goesWith", "(LSpellDesk$Entry;)Z"⟩ ∈ gTbl := (gt_in (i := 942) (by decide +kernel) rfl)
theorem km_Sp_85 : Cond.methodLink "SpellDesk$Speller" 85 ⟨"SpellDesk$Speller", "putWay", "(I)V"⟩ ∈ gTbl := (gt_in (i := 946) (by decide +kernel) rfl)
theorem km_Sp_88 : Cond.methodLink "SpellDesk$Speller" 88 ⟨"SpellDesk$Speller", "way", "(I)I"⟩ ∈ gTbl := (gt_in (i := 988) (by decide +kernel) rfl)
theorem km_Sp_92 : Cond.methodLink "SpellDesk$Speller" 92 ⟨"SpellDesk$Dictionary", "at", "(I)LSpellDesk$Entry;"⟩ ∈ gTbl := (gt_in (i := 992) (by decide +kernel) rfl)
theorem km_Sp_95 : Cond.methodLink "SpellDesk$Speller" 95 ⟨"SpellDesk$Letters", "clear", "()V"⟩ ∈ gTbl := (gt_in (i := 932) (by decide +kernel) rfl)
theorem km_Sp_98 : Cond.methodLink "SpellDesk$Speller" 98 ⟨"SpellDesk$WordList", "clear", "()V"⟩ ∈ gTbl := (gt_in (i := 1023) (by decide +kernel) rfl)
theorem km_Sp_99 : Cond.methodLink "SpellDesk$Speller" 99 ⟨"SpellDesk$Speller", "putForm", "(LSpellDesk$Entry;LSpellDesk$Rule;LSpellDesk$Rule;)V"⟩ ∈ gTbl := (gt_in (i := 1024) (by decide +kernel) rfl)
theorem km_Sp_114 : Cond.methodLink "SpellDesk$Speller" 114 ⟨"SpellDesk$Letters", "appendAll", "(LSpellDesk$Letters;II)V"⟩ ∈ gTbl := (gt_in (i := 936) (by decide +kernel) rfl)
theorem km_Sp_118 : Cond.methodLink "SpellDesk$Speller" 118 ⟨"SpellDesk$WordList", "put", "(II)V"⟩ ∈ gTbl := (gt_in (i := 1028) (by decide +kernel) rfl)
end
section
/-! numbers in order -/
def posN (x : Nat) : List Nat → Nat
  | [] => 0
  | y :: l => if y ≤ x then posN x l + 1 else 0
def srtN : List Nat → Prop
  | [] => True
  | a :: l => (∀ b ∈ l, a ≤ b) ∧ srtN l
theorem posN_le (x : Nat) : ∀ l : List Nat, posN x l ≤ l.length
  | [] => Nat.le_refl 0
  | a :: l => by
    have := posN_le x l
    rw [posN]
    split <;> simp <;> omega
theorem posN_lt (x : Nat) : ∀ {l : List Nat} {i a : Nat}, l[i]? = some a → i < posN x l → a ≤ x
  | [], i, a, h, _ => by simp at h
  | c :: l, i, a, h, hi => by
    rw [posN] at hi
    split at hi
    · next hc =>
      cases i with
      | zero => rw [List.getElem?_cons_zero] at h; cases h; exact hc
      | succ i => rw [List.getElem?_cons_succ] at h; exact posN_lt x h (by omega)
    · omega
theorem posN_ge (x : Nat) : ∀ {l : List Nat} (_ : srtN l) {i a : Nat}, l[i]? = some a → posN x l ≤ i → x < a
  | [], _, i, a, h, _ => by simp at h
  | c :: l, hs, i, a, h, hi => by
    rw [posN] at hi
    split at hi
    · next hc =>
      cases i with
      | zero => omega
      | succ i => rw [List.getElem?_cons_succ] at h; exact posN_ge x hs.2 h (by omega)
    · next hc =>
      cases i with
      | zero => rw [List.getElem?_cons_zero] at h; cases h; omega
      | succ i =>
        rw [List.getElem?_cons_succ] at h
        have := hs.1 a (List.mem_of_getElem? h)
        omega
theorem srtN_ins (x : Nat) : ∀ {l : List Nat}, srtN l → srtN (insA l (posN x l) x)
  | [], _ => by simp [insA, posN, srtN]
  | c :: l, hs => by
    rw [posN]
    split
    · next hc =>
      show srtN (c :: insA l (posN x l) x)
      refine ⟨fun b hb => ?_, srtN_ins x hs.2⟩
      rcases insA_mem hb with q | q
      · exact hs.1 b q
      · omega
    · next hc =>
      show srtN (x :: c :: l)
      refine ⟨fun b hb => ?_, hs⟩
      rcases List.mem_cons.mp hb with q | q
      · omega
      · have := hs.1 b q
        omega
/-! three numbers, the last two taken off -/
theorem sub3_pos {a b c : Nat} (h : b + c < a) : nI a - nI b - nI c = nI (a - b - c) := by
  rw [pk_sub (by omega), pk_sub (by omega)]
theorem sub3_neg {a b c : Nat} (h : a ≤ b + c) (ha : a < 65536) (hb : b < 65536) (hc : c < 65536) : nI a - nI b - nI c < nI 1 := by
  rw [Int32.lt_iff_toInt_lt]
  have e1 : (nI 1).toInt = 1 := by decide
  have e2 : (nI a - nI b - nI c).toInt = (a : Int) - b - c := by
    rw [Int32.toInt_sub, pk_sub_toInt (by omega) (by omega), nI_toInt (by omega), Int.bmod_eq_of_le (by omega) (by omega)]
  rw [e1, e2]
  omega
/-! THE SPELLER; A gives each fixed object's address by its tag -/
def SpO (g : GH) (A : Nat → Nat) (n : Nat) : Prop := g (A 30) = some (30, .inr (8, [.ref (A 7), .ref (A 10), .ref (A 20), .ref (A 31), .ref (A 33), .ref (A 34), .ref (A 36), .int (nI n)]))
def Wy (G : GG) (g : GH) (A : Nat → Nat) (ws : List Nat) : Prop := ∃ f, g (A 33) = some (33, .inl (G.2.1 1, 81, .inl f)) ∧ ∀ i x, ws[i]? = some x → f i = nI x
theorem SpO.M {g g' : GH} {A : Nat → Nat} {n : Nat} {S : List Nat} (h : SpO g A n) (hM : gh_M S g g') (h1 : 30 ∉ S) : SpO g' A n := hM _ 30 _ h h1
theorem Wy.M {G : GG} {g g' : GH} {A : Nat → Nat} {ws : List Nat} {S : List Nat} (h : Wy G g A ws) (hM : gh_M S g g') (h1 : 33 ∉ S) : Wy G g' A ws := by
  obtain ⟨f, k1, k2⟩ := h
  exact ⟨f, hM _ 33 _ k1 h1, k2⟩
theorem SpO.ne {G : GG} {g : GH} {A : Nat → Nat} {n : Nat} {ws : List Nat} (h : SpO g A n) (hw : Wy G g A ws) : A 30 ≠ A 33 := by
  obtain ⟨f, k1, k2⟩ := hw
  exact gh_ne h k1 (by show (30 : Nat) ≠ 33; decide)
set_option maxRecDepth 20000 in
set_option maxHeartbeats 4000000 in
theorem c_Sp_way (l : Launch) (G : GG) {g : GH} {A : Nat → Nat} {ws : List Nat} {j x : Nat} (h : SpO g A ws.length) (hw : Wy G g A ws) (hwl : ws.length ≤ 81) (hj : ws[j]? = some x) : gMet l G y_Sp_way b_Sp_way 2 (some .int) (rmk 0 0 0 0) [.ref (A 30), .int (nI j)] g (fun v g' => v = some (.int (nI x)) ∧ g' = g) := by
  refine gMet.of [some (.ref (A 30)), some (.int (nI j))] (by decide +kernel) rfl (Nat.le_of_ble_eq_true rfl) rfl (fun X hK hI hE => ?_)
  obtain ⟨f, k1, k2⟩ := hw
  have hlt := (List.getElem?_eq_some_iff.mp hj).1
  refine gh_iload_n hK d_Sp_way_0 rfl ?_
  refine gh_if_ltN hK d_Sp_way_1 (tgt := 21) (by decide) (by omega) ?_
  refine gh_iload_n hK d_Sp_way_4 rfl ?_
  refine gh_aload_n hK d_Sp_way_5 rfl ?_
  refine gh_get hK d_Sp_way_6 in_Sp rfl h 7 (by decide) kf_Sp_47 rfl rfl ?_
  refine gh_icmp_geN hK d_Sp_way_9 (tgt := 21) (by decide) (by omega) (by omega) (fun z => absurd z (by omega)) (fun z => ?_)
  refine gh_aload_n hK d_Sp_way_12 rfl ?_
  refine gh_get hK d_Sp_way_13 in_Sp rfl h 4 (by decide) kf_Sp_31 rfl rfl ?_
  refine gh_iload_n hK d_Sp_way_16 rfl ?_
  refine gh_ialdN (j := j) hK d_Sp_way_17 k1 (t0 := 1) rfl (by omega) (by omega) ?_
  rw [k2 j x hj]
  refine gh_goto (tgt := 22) hK d_Sp_way_18 (by decide) ?_
  exact gh_iret hK hE d_Sp_way_22 (Nat.le_of_ble_eq_true rfl) (Nat.le_of_ble_eq_true rfl) ⟨rfl, rfl⟩
set_option maxRecDepth 20000 in
set_option maxHeartbeats 4000000 in
theorem c_Sp_prefixOfWay (l : Launch) (G : GG) {g : GH} {A : Nat → Nat} {ws : List Nat} {j x : Nat} (h : SpO g A ws.length) (hw : Wy G g A ws) (hwl : ws.length ≤ 81) (hj : ws[j]? = some x) (hx : x < 1000000) : gMet l G y_Sp_prefixOfWay b_Sp_prefixOfWay 2 (some .int) (rmk 1 0 0 21) [.ref (A 30), .int (nI j)] g (fun v g' => v = some (.int (nI (x / 9 % 9))) ∧ g' = g) := by
  refine gMet.of [some (.ref (A 30)), some (.int (nI j))] (by decide +kernel) rfl (Nat.le_of_ble_eq_true rfl) rfl (fun X hK hI hE => ?_)
  refine gh_aload_n hK d_Sp_prefixOfWay_0 rfl ?_
  refine gh_iload_n hK d_Sp_prefixOfWay_1 rfl ?_
  refine gh_callV (rest := []) [.int (nI j)] hK (c_Sp_way l G h hw hwl hj) Y_Sp_way V_Sp_way km_Sp_88 h rfl rfl d_Sp_prefixOfWay_2 rfl rfl (Nat.le_of_ble_eq_true rfl) ⟨(Nat.le_of_ble_eq_true rfl), (Nat.le_of_ble_eq_true rfl)⟩ ⟨(Nat.le_of_ble_eq_true rfl), (Nat.le_of_ble_eq_true rfl)⟩ (fun v g' hp => ?_)
  rw [hp.1, hp.2]
  show gh_W l G _ X g _ _ [some (.ref (A 30)), some (.int (nI j))] 5 [.int (nI x)]
  refine gh_bipush (v := nI 9) hK d_Sp_prefixOfWay_5 (by decide) ?_
  refine gh_divN hK d_Sp_prefixOfWay_7 (by omega) (by omega) (by omega) ?_
  refine gh_bipush (v := nI 9) hK d_Sp_prefixOfWay_8 (by decide) ?_
  refine gh_remN hK d_Sp_prefixOfWay_10 (by omega) (by omega) (by omega) ?_
  exact gh_iret hK hE d_Sp_prefixOfWay_11 (Nat.le_of_ble_eq_true rfl) (Nat.le_of_ble_eq_true rfl) ⟨rfl, rfl⟩
set_option maxRecDepth 20000 in
set_option maxHeartbeats 4000000 in
theorem c_Sp_suffixOfWay (l : Launch) (G : GG) {g : GH} {A : Nat → Nat} {ws : List Nat} {j x : Nat} (h : SpO g A ws.length) (hw : Wy G g A ws) (hwl : ws.length ≤ 81) (hj : ws[j]? = some x) (hx : x < 1000000) : gMet l G y_Sp_suffixOfWay b_Sp_suffixOfWay 2 (some .int) (rmk 1 0 0 21) [.ref (A 30), .int (nI j)] g (fun v g' => v = some (.int (nI (x % 9))) ∧ g' = g) := by
  refine gMet.of [some (.ref (A 30)), some (.int (nI j))] (by decide +kernel) rfl (Nat.le_of_ble_eq_true rfl) rfl (fun X hK hI hE => ?_)
  refine gh_aload_n hK d_Sp_suffixOfWay_0 rfl ?_
  refine gh_iload_n hK d_Sp_suffixOfWay_1 rfl ?_
  refine gh_callV (rest := []) [.int (nI j)] hK (c_Sp_way l G h hw hwl hj) Y_Sp_way V_Sp_way km_Sp_88 h rfl rfl d_Sp_suffixOfWay_2 rfl rfl (Nat.le_of_ble_eq_true rfl) ⟨(Nat.le_of_ble_eq_true rfl), (Nat.le_of_ble_eq_true rfl)⟩ ⟨(Nat.le_of_ble_eq_true rfl), (Nat.le_of_ble_eq_true rfl)⟩ (fun v g' hp => ?_)
  rw [hp.1, hp.2]
  show gh_W l G _ X g _ _ [some (.ref (A 30)), some (.int (nI j))] 5 [.int (nI x)]
  refine gh_bipush (v := nI 9) hK d_Sp_suffixOfWay_5 (by decide) ?_
  refine gh_remN hK d_Sp_suffixOfWay_7 (by omega) (by omega) (by omega) ?_
  exact gh_iret hK hE d_Sp_suffixOfWay_8 (Nat.le_of_ble_eq_true rfl) (Nat.le_of_ble_eq_true rfl) ⟨rfl, rfl⟩
set_option maxRecDepth 20000 in
set_option maxHeartbeats 4000000 in
theorem c_Sp_entryOfWay (l : Launch) (G : GG) {g : GH} {A : Nat → Nat} {ws : List Nat} {j x : Nat} {es : List (Nat × List Nat × Nat)} {y : Nat × List Nat × Nat} (h : SpO g A ws.length) (hw : Wy G g A ws) (hwl : ws.length ≤ 81) (hj : ws[j]? = some x) (hx : x < 1000000) (hd : Dc G g (A 7) (A 8) es) (hy : es[x / 81]? = some y) : gMet l G y_Sp_entryOfWay b_Sp_entryOfWay 2 (some (.object "SpellDesk$Entry")) (rmk 4 0 0 85) [.ref (A 30), .int (nI j)] g (fun v g' => v = some (.ref y.1) ∧ g' = g) := by
  refine gMet.of [some (.ref (A 30)), some (.int (nI j))] (by decide +kernel) rfl (Nat.le_of_ble_eq_true rfl) rfl (fun X hK hI hE => ?_)
  refine gh_aload_n hK d_Sp_entryOfWay_0 rfl ?_
  refine gh_get hK d_Sp_entryOfWay_1 in_Sp rfl h 0 (by decide) kf_Sp_9 rfl rfl ?_
  refine gh_aload_n hK d_Sp_entryOfWay_4 rfl ?_
  refine gh_iload_n hK d_Sp_entryOfWay_5 rfl ?_
  refine gh_callV (rest := [.ref (A 7)]) [.int (nI j)] hK (c_Sp_way l G h hw hwl hj) Y_Sp_way V_Sp_way km_Sp_88 h rfl rfl d_Sp_entryOfWay_6 rfl rfl (Nat.le_of_ble_eq_true rfl) ⟨(Nat.le_of_ble_eq_true rfl), (Nat.le_of_ble_eq_true rfl)⟩ ⟨(Nat.le_of_ble_eq_true rfl), (Nat.le_of_ble_eq_true rfl)⟩ (fun v g' hp => ?_)
  rw [hp.1, hp.2]
  show gh_W l G _ X g _ _ [some (.ref (A 30)), some (.int (nI j))] 9 [.int (nI x), .ref (A 7)]
  refine gh_bipush (v := nI 81) hK d_Sp_entryOfWay_9 (by decide) ?_
  refine gh_divN hK d_Sp_entryOfWay_11 (by omega) (by omega) (by omega) ?_
  refine gh_callV (rest := []) [.int (nI (x / 81))] hK (c_Dc_at l G hd (j := x / 81) (by omega)) Y_Dc_at1 V_Dc_at1 km_Sp_92 hd.1 rfl rfl d_Sp_entryOfWay_12 rfl rfl (Nat.le_of_ble_eq_true rfl) ⟨(Nat.le_of_ble_eq_true rfl), (Nat.le_of_ble_eq_true rfl)⟩ ⟨(Nat.le_of_ble_eq_true rfl), (Nat.le_of_ble_eq_true rfl)⟩ (fun v g' hp => ?_)
  rw [hp.1 y hy, hp.2.2]
  show gh_W l G _ X g _ _ [some (.ref (A 30)), some (.int (nI j))] 15 [.ref y.1]
  exact gh_aret (Or.inl ⟨_, rfl⟩) (Or.inr ⟨_, rfl⟩) hK hE d_Sp_entryOfWay_15 (Nat.le_of_ble_eq_true rfl) (Nat.le_of_ble_eq_true rfl) ⟨rfl, rfl⟩
set_option maxRecDepth 20000 in
set_option maxHeartbeats 4000000 in
theorem c_Sp_putWay (l : Launch) (G : GG) {g : GH} {A : Nat → Nat} {ws : List Nat} {x : Nat} (h : SpO g A ws.length) (hw : Wy G g A ws) (hwl : ws.length < 81) (hs : srtN ws) (hws : ∀ y, y ∈ ws → y < 2 ^ 31) (hx : x < 2 ^ 31) : gMet l G y_Sp_putWay b_Sp_putWay 3 none (rmk 0 0 0 0) [.ref (A 30), .int (nI x)] g (fun v g' => v = none ∧ SpO g' A (insA ws (posN x ws) x).length ∧ Wy G g' A (insA ws (posN x ws) x) ∧ gh_M [30, 33] g g') := by
  refine gMet.of [some (.ref (A 30)), some (.int (nI x)), none] (by decide +kernel) rfl (Nat.le_of_ble_eq_true rfl) rfl (fun X hK hI hE => ?_)
  have n0 := h.ne hw
  have hpl := posN_le x ws
  obtain ⟨f, k1, k2⟩ := hw
  have loop : ∀ (p : Nat) (g1 : GH) (f1 : Nat → Int32), p ≤ ws.length → posN x ws ≤ p → SpO g1 A ws.length → g1 (A 33) = some (33, .inl (G.2.1 1, 81, .inl f1)) → (∀ i y, i < p → ws[i]? = some y → f1 i = nI y) → (∀ i y, p ≤ i → ws[i]? = some y → f1 (i + 1) = nI y) → gh_M [30, 33] g g1 → gh_W l G (rmk 0 0 0 0) X g1 0 0 [some (.ref (A 30)), some (.int (nI x)), some (.int (nI p))] 18 [] := by
    have fin : ∀ (p : Nat) (g1 : GH) (f1 : Nat → Int32), p = posN x ws → SpO g1 A ws.length → g1 (A 33) = some (33, .inl (G.2.1 1, 81, .inl f1)) → (∀ i y, i < p → ws[i]? = some y → f1 i = nI y) → (∀ i y, p ≤ i → ws[i]? = some y → f1 (i + 1) = nI y) → gh_M [30, 33] g g1 → gh_W l G (rmk 0 0 0 0) X g1 0 0 [some (.ref (A 30)), some (.int (nI x)), some (.int (nI p))] 54 [] := by
      intro p g1 f1 hp j1 j2 j3 j4 hM
      have j1 : g1 (A 30) = some (30, .inr (8, [.ref (A 7), .ref (A 10), .ref (A 20), .ref (A 31), .ref (A 33), .ref (A 34), .ref (A 36), .int (nI ws.length)])) := j1
      refine gh_aload_n hK d_Sp_putWay_54 rfl ?_
      refine gh_get hK d_Sp_putWay_55 in_Sp rfl j1 4 (by decide) kf_Sp_31 rfl rfl ?_
      refine gh_iload_n hK d_Sp_putWay_58 rfl ?_
      refine gh_iload_n hK d_Sp_putWay_59 rfl ?_
      refine gh_iastN hK d_Sp_putWay_60 j2 (t0 := 1) rfl (by omega) (by omega) ?_
      have j5 : gh_up g1 (A 33) 33 (.inl (G.2.1 1, 81, .inl (upd f1 p (nI x)))) (A 30) = some (30, .inr (8, [.ref (A 7), .ref (A 10), .ref (A 20), .ref (A 31), .ref (A 33), .ref (A 34), .ref (A 36), .int (nI ws.length)])) := by rw [gh_un n0]; exact j1
      refine gh_aload_n hK d_Sp_putWay_61 rfl ?_
      refine gh_dup hK d_Sp_putWay_62 rfl ?_
      refine gh_get hK d_Sp_putWay_63 in_Sp rfl j5 7 (by decide) kf_Sp_47 rfl rfl ?_
      refine gh_iconst (v := nI 1) hK d_Sp_putWay_66 (by decide) ?_
      refine gh_addN hK d_Sp_putWay_67 ?_
      refine gh_put hK d_Sp_putWay_68 in_Sp t_Sp ty_Sp nm_Sp rfl j5 7 (by decide) kf_Sp_47 rfl rfl rfl rfl (Nat.le_of_ble_eq_true rfl) rfl ?_
      refine gh_vret hK hE d_Sp_putWay_71 (Nat.le_of_ble_eq_true rfl) (Nat.le_of_ble_eq_true rfl) ⟨rfl, ?_, ⟨upd f1 p (nI x), by rw [gh_un n0.symm, gh_us], fun i y hi => ?_⟩, hM.tr ((gh_M.up j2 (by decide)).tr (gh_M.up j5 (by decide)))⟩
      · rw [insA_len hpl]
        exact gh_us
      · rw [← hp] at hi hpl
        rcases Nat.lt_trichotomy i p with q | q | q
        · rw [insA_lt hpl q] at hi
          rw [pk_un (by omega)]
          exact j3 i y q hi
        · rw [q, insA_eq hpl] at hi
          cases hi
          rw [q, pk_us]
        · rw [insA_gt hpl q] at hi
          rw [pk_un (by omega)]
          have := j4 (i - 1) y (by omega) hi
          rwa [show i - 1 + 1 = i by omega] at this
    intro p
    induction p with
    | zero =>
      intro g1 f1 hp0 hp1 j1 j2 j3 j4 hM
      refine gh_iload_n hK d_Sp_putWay_18 rfl ?_
      refine gh_if_leN hK d_Sp_putWay_19 (tgt := 54) (by decide) (by decide) (fun z => ?_) (fun z => absurd z (by decide))
      exact fin 0 g1 f1 (by omega) j1 j2 j3 j4 hM
    | succ p ih =>
      intro g1 f1 hp0 hp1 j1 j2 j3 j4 hM
      have j0 : g1 (A 30) = some (30, .inr (8, [.ref (A 7), .ref (A 10), .ref (A 20), .ref (A 31), .ref (A 33), .ref (A 34), .ref (A 36), .int (nI ws.length)])) := j1
      obtain ⟨y, hy⟩ : ∃ y, ws[p]? = some y := ⟨_, List.getElem?_eq_getElem (by omega)⟩
      have hyl := hws y (List.mem_of_getElem? hy)
      have hfy := j3 p y (by omega) hy
      refine gh_iload_n hK d_Sp_putWay_18 rfl ?_
      refine gh_if_leN hK d_Sp_putWay_19 (tgt := 54) (by decide) (by omega) (fun z => absurd z (by omega)) (fun z => ?_)
      refine gh_aload_n hK d_Sp_putWay_22 rfl ?_
      refine gh_get hK d_Sp_putWay_23 in_Sp rfl j0 4 (by decide) kf_Sp_31 rfl rfl ?_
      refine gh_iload_n hK d_Sp_putWay_26 rfl ?_
      refine gh_iconst (v := nI 1) hK d_Sp_putWay_27 (by decide) ?_
      refine gh_subN hK d_Sp_putWay_28 (by omega) ?_
      rw [Nat.add_sub_cancel]
      refine gh_ialdN (j := p) hK d_Sp_putWay_29 j2 (t0 := 1) rfl (by omega) (by omega) ?_
      rw [hfy]
      refine gh_iload_n hK d_Sp_putWay_30 rfl ?_
      refine gh_icmp_leN hK d_Sp_putWay_31 (tgt := 54) (by decide) hyl hx (fun z2 => ?_) (fun z2 => ?_)
      · refine fin (p + 1) g1 f1 ?_ j1 j2 j3 j4 hM
        rcases Nat.lt_or_ge p (posN x ws) with q | q
        · omega
        · have := posN_ge x hs hy q; omega
      · refine gh_aload_n hK d_Sp_putWay_34 rfl ?_
        refine gh_get hK d_Sp_putWay_35 in_Sp rfl j0 4 (by decide) kf_Sp_31 rfl rfl ?_
        refine gh_iload_n hK d_Sp_putWay_38 rfl ?_
        refine gh_aload_n hK d_Sp_putWay_39 rfl ?_
        refine gh_get hK d_Sp_putWay_40 in_Sp rfl j0 4 (by decide) kf_Sp_31 rfl rfl ?_
        refine gh_iload_n hK d_Sp_putWay_43 rfl ?_
        refine gh_iconst (v := nI 1) hK d_Sp_putWay_44 (by decide) ?_
        refine gh_subN hK d_Sp_putWay_45 (by omega) ?_
        rw [Nat.add_sub_cancel]
        refine gh_ialdN (j := p) hK d_Sp_putWay_46 j2 (t0 := 1) rfl (by omega) (by omega) ?_
        rw [hfy]
        refine gh_iastN hK d_Sp_putWay_47 j2 (t0 := 1) rfl (by omega) (by omega) ?_
        refine gh_iinc (v := nI p) (lv' := [some (.ref (A 30)), some (.int (nI x)), some (.int (nI p))]) hK d_Sp_putWay_48 rfl (pk_m1 p) rfl ?_
        refine gh_goto (tgt := 18) hK d_Sp_putWay_51 (by decide) ?_
        refine ih _ (upd f1 (p + 1) (nI y)) (by omega) ?_ ?_ gh_us (fun i z hi hz => ?_) (fun i z hi hz => ?_) (hM.tr (gh_M.up j2 (by decide)))
        · rcases Nat.lt_or_ge p (posN x ws) with q | q
          · have := posN_lt x hy q; omega
          · exact q
        · show gh_up g1 (A 33) 33 _ (A 30) = _
          rw [gh_un n0]
          exact j0
        · rw [pk_un (by omega)]
          exact j3 i z (by omega) hz
        · by_cases q : i = p
          · rw [q, pk_us]
            rw [q, hy] at hz
            cases hz
            rfl
          · rw [pk_un (by omega)]
            exact j4 i z (by omega) hz
  refine gh_aload_n hK d_Sp_putWay_0 rfl ?_
  refine gh_get hK d_Sp_putWay_1 in_Sp rfl h 7 (by decide) kf_Sp_47 rfl rfl ?_
  refine gh_aload_n hK d_Sp_putWay_4 rfl ?_
  refine gh_get hK d_Sp_putWay_5 in_Sp rfl h 4 (by decide) kf_Sp_31 rfl rfl ?_
  refine gh_alen (v := nI 81) hK d_Sp_putWay_8 k1 (t0 := 1) rfl rfl ?_
  refine gh_icmp_ltN hK d_Sp_putWay_9 (tgt := 13) (by decide) (by omega) (by decide) (fun z => ?_) (fun z => absurd z (by omega))
  refine gh_aload_n hK d_Sp_putWay_13 rfl ?_
  refine gh_get hK d_Sp_putWay_14 in_Sp rfl h 7 (by decide) kf_Sp_47 rfl rfl ?_
  refine gh_istore_n (lv' := [some (.ref (A 30)), some (.int (nI x)), some (.int (nI ws.length))]) hK d_Sp_putWay_17 (Nat.le_of_ble_eq_true rfl) rfl ?_
  exact loop ws.length g f (Nat.le_refl _) hpl h k1 (fun i y _ hy => k2 i y hy) (fun i y hi hy => absurd (List.getElem?_eq_some_iff.mp hy).1 (by omega)) gh_M.rf
end
section
theorem Lt.ap {G : GG} {g : GH} {a t b u cap c t2 d u2 cap2 : Nat} {xs ys : List Nat} (h : Lt G g a t b u cap xs) (h2 : Lt G g c t2 d u2 cap2 ys) (ht : t ∉ [t2, u2]) (hu : u ∉ [t2, u2]) : a ∉ [c, d] ∧ b ∉ [c, d] := by
  obtain ⟨f, ⟨k1, k2, -⟩, -⟩ := h
  obtain ⟨f2, ⟨j1, j2, -⟩, -⟩ := h2
  have e1 : t ≠ t2 := fun q => ht (by simp [q])
  have e2 : t ≠ u2 := fun q => ht (by simp [q])
  have e3 : u ≠ t2 := fun q => hu (by simp [q])
  have e4 : u ≠ u2 := fun q => hu (by simp [q])
  have n1 := gh_ne k1 j1 e1
  have n2 := gh_ne k1 j2 e2
  have n3 := gh_ne k2 j1 e3
  have n4 := gh_ne k2 j2 e4
  exact ⟨by simp [n1, n2], by simp [n3, n4]⟩
theorem slice_sub {ys : List Nat} {fr len a b : Nat} (h : a + b ≤ len) : (((ys.drop fr).take len).drop a).take b = (ys.drop (fr + a)).take b := by
  rw [List.drop_take, List.drop_drop, List.take_take, Nat.min_eq_left (by omega)]
/-- the base of which two rules make the word w -/
def undB (u1 u2 : RuR) (w : List Nat) : Option (List Nat) := if u1.2.2.1.length + u2.2.2.1.length < w.length ∧ u1.2.1.length + (w.length - u1.2.2.1.length - u2.2.2.1.length) + u2.2.1.length ≤ 16 then some (u1.2.1 ++ ((w.drop u1.2.2.1.length).take (w.length - u1.2.2.1.length - u2.2.2.1.length)) ++ u2.2.1) else none
set_option maxRecDepth 20000 in
set_option maxHeartbeats 4000000 in
theorem c_Sp_undo (l : Launch) (G : GG) {g : GH} {A : Nat → Nat} {n q1 q2 ta tb fo len : Nat} {u1 u2 : RuR} {bs ys : List Nat} (h : SpO g A n) (hb : Lt G g (A 31) 31 (A 32) 32 16 bs) (hu1 : RuX G g q1 true u1) (hu2 : RuX G g q2 false u2) (ho : Lt G g ta 1 tb 2 2048 ys) (hf : fo + len ≤ ys.length) : gMet l G y_Sp_undo b_Sp_undo 7 (some .boolean) (rmk 2 0 0 45) [.ref (A 30), .ref q1, .ref q2, .ref ta, .int (nI fo), .int (nI len)] g (fun v g' => (∀ b, undB u1 u2 ((ys.drop fo).take len) = some b → v = some (.int (nI 1)) ∧ Lt G g' (A 31) 31 (A 32) 32 16 b) ∧ (undB u1 u2 ((ys.drop fo).take len) = none → v = some (.int (nI 0)) ∧ g' = g) ∧ gh_N [A 31, A 32] g g') := by
  refine gMet.of [some (.ref (A 30)), some (.ref q1), some (.ref q2), some (.ref ta), some (.int (nI fo)), some (.int (nI len)), none] (by decide +kernel) rfl (Nat.le_of_ble_eq_true rfl) rfl (fun X hK hI hE => ?_)
  have hsl := slice_len hf
  obtain ⟨t1, t2, t3, m1, m2, m3, sa, sb, aa, ab, ca, cb, k1, k2, k3, k4⟩ := hu1
  obtain ⟨r1, r2, r3, l1, l2, l3, sa2, sb2, aa2, ab2, ca2, cb2, j1, j2, j3, j4⟩ := hu2
  obtain ⟨b1, b2⟩ := k2.len
  obtain ⟨b3, b4⟩ := k3.len
  obtain ⟨b5, b6⟩ := j2.len
  obtain ⟨b7, b8⟩ := j3.len
  obtain ⟨b9, b10⟩ := ho.len
  obtain ⟨p1, p2⟩ := k2.ap hb (by simp at m2 ⊢; omega) (by simp at m3 ⊢; omega)
  obtain ⟨p3, p4⟩ := j2.ap hb (by simp at l2 ⊢; omega) (by simp at l3 ⊢; omega)
  obtain ⟨p5, p6⟩ := ho.ap hb (by decide) (by decide)
  obtain ⟨fl, S, A1, Cc⟩ := u1
  obtain ⟨fl2, S2, A2, C2⟩ := u2
  dsimp only at k1 k2 k3 j1 j2 j3 b1 b2 b3 b4 b5 b6 b7 b8
  have h0 : g (A 30) = some (30, .inr (8, [.ref (A 7), .ref (A 10), .ref (A 20), .ref (A 31), .ref (A 33), .ref (A 34), .ref (A 36), .int (nI n)])) := h
  refine gh_iload hK d_Sp_undo_0 rfl ?_
  refine gh_aload_n hK d_Sp_undo_2 rfl ?_
  refine gh_get hK d_Sp_undo_3 in_Ru rfl k1 3 (by decide) kf_Sp_111 rfl rfl ?_
  refine gh_callV (rest := [.int (nI len)]) [] hK (c_Lt_count l G k3) Y_Lt_count V_Lt_count km_Sp_71 k3.ob rfl rfl d_Sp_undo_6 rfl rfl (Nat.le_of_ble_eq_true rfl) ⟨(Nat.le_of_ble_eq_true rfl), (Nat.le_of_ble_eq_true rfl)⟩ ⟨(Nat.le_of_ble_eq_true rfl), (Nat.le_of_ble_eq_true rfl)⟩ (fun v g' hp => ?_)
  rw [hp.1, hp.2]
  show gh_W l G _ X g _ _ [some (.ref (A 30)), some (.ref q1), some (.ref q2), some (.ref ta), some (.int (nI fo)), some (.int (nI len)), none] 9 [.int (nI A1.length), .int (nI len)]
  refine gh_isub hK d_Sp_undo_9 ?_
  refine gh_aload_n hK d_Sp_undo_10 rfl ?_
  refine gh_get hK d_Sp_undo_11 in_Ru rfl j1 3 (by decide) kf_Sp_111 rfl rfl ?_
  refine gh_callV (rest := [.int (nI len - nI A1.length)]) [] hK (c_Lt_count l G j3) Y_Lt_count V_Lt_count km_Sp_71 j3.ob rfl rfl d_Sp_undo_14 rfl rfl (Nat.le_of_ble_eq_true rfl) ⟨(Nat.le_of_ble_eq_true rfl), (Nat.le_of_ble_eq_true rfl)⟩ ⟨(Nat.le_of_ble_eq_true rfl), (Nat.le_of_ble_eq_true rfl)⟩ (fun v g' hp => ?_)
  rw [hp.1, hp.2]
  show gh_W l G _ X g _ _ [some (.ref (A 30)), some (.ref q1), some (.ref q2), some (.ref ta), some (.int (nI fo)), some (.int (nI len)), none] 17 [.int (nI A2.length), .int (nI len - nI A1.length)]
  refine gh_isub hK d_Sp_undo_17 ?_
  by_cases hl : A1.length + A2.length < len
  · rw [sub3_pos hl]
    refine gh_istore (lv' := [some (.ref (A 30)), some (.ref q1), some (.ref q2), some (.ref ta), some (.int (nI fo)), some (.int (nI len)), some (.int (nI (len - A1.length - A2.length)))]) hK d_Sp_undo_18 (Nat.le_of_ble_eq_true rfl) rfl ?_
    refine gh_iload hK d_Sp_undo_20 rfl ?_
    refine gh_iconst (v := nI 1) hK d_Sp_undo_22 (by decide) ?_
    refine gh_icmp_ltN hK d_Sp_undo_23 (tgt := 49) (by decide) (by omega) (by decide) (fun z => absurd z (by omega)) (fun z => ?_)
    refine gh_aload_n hK d_Sp_undo_26 rfl ?_
    refine gh_get hK d_Sp_undo_27 in_Ru rfl k1 2 (by decide) kf_Sp_108 rfl rfl ?_
    refine gh_callV (rest := []) [] hK (c_Lt_count l G k2) Y_Lt_count V_Lt_count km_Sp_71 k2.ob rfl rfl d_Sp_undo_30 rfl rfl (Nat.le_of_ble_eq_true rfl) ⟨(Nat.le_of_ble_eq_true rfl), (Nat.le_of_ble_eq_true rfl)⟩ ⟨(Nat.le_of_ble_eq_true rfl), (Nat.le_of_ble_eq_true rfl)⟩ (fun v g' hp => ?_)
    rw [hp.1, hp.2]
    show gh_W l G _ X g _ _ [some (.ref (A 30)), some (.ref q1), some (.ref q2), some (.ref ta), some (.int (nI fo)), some (.int (nI len)), some (.int (nI (len - A1.length - A2.length)))] 33 [.int (nI S.length)]
    refine gh_iload hK d_Sp_undo_33 rfl ?_
    refine gh_addN hK d_Sp_undo_35 ?_
    refine gh_aload_n hK d_Sp_undo_36 rfl ?_
    refine gh_get hK d_Sp_undo_37 in_Ru rfl j1 2 (by decide) kf_Sp_108 rfl rfl ?_
    refine gh_callV (rest := [.int (nI (S.length + (len - A1.length - A2.length)))]) [] hK (c_Lt_count l G j2) Y_Lt_count V_Lt_count km_Sp_71 j2.ob rfl rfl d_Sp_undo_40 rfl rfl (Nat.le_of_ble_eq_true rfl) ⟨(Nat.le_of_ble_eq_true rfl), (Nat.le_of_ble_eq_true rfl)⟩ ⟨(Nat.le_of_ble_eq_true rfl), (Nat.le_of_ble_eq_true rfl)⟩ (fun v g' hp => ?_)
    rw [hp.1, hp.2]
    show gh_W l G _ X g _ _ [some (.ref (A 30)), some (.ref q1), some (.ref q2), some (.ref ta), some (.int (nI fo)), some (.int (nI len)), some (.int (nI (len - A1.length - A2.length)))] 43 [.int (nI S2.length), .int (nI (S.length + (len - A1.length - A2.length)))]
    refine gh_addN hK d_Sp_undo_43 ?_
    refine gh_bipush (v := nI 16) hK d_Sp_undo_44 (by decide) ?_
    refine gh_icmp_leN hK d_Sp_undo_46 (tgt := 51) (by decide) (by omega) (by decide) (fun z2 => ?_) (fun z2 => ?_)
    · refine gh_aload_n hK d_Sp_undo_51 rfl ?_
      refine gh_get hK d_Sp_undo_52 in_Sp rfl h0 3 (by decide) kf_Sp_27 rfl rfl ?_
      refine gh_callV (rest := []) [] hK (c_Lt_clear l G hb) Y_Lt_clear V_Lt_clear km_Sp_95 hb.ob rfl rfl d_Sp_undo_55 rfl rfl (Nat.le_of_ble_eq_true rfl) ⟨(Nat.le_of_ble_eq_true rfl), (Nat.le_of_ble_eq_true rfl)⟩ ⟨(Nat.le_of_ble_eq_true rfl), (Nat.le_of_ble_eq_true rfl)⟩ (fun v g1 hp => ?_)
      obtain ⟨rfl, hb1, hN1⟩ := hp
      show gh_W l G _ X g1 _ _ [some (.ref (A 30)), some (.ref q1), some (.ref q2), some (.ref ta), some (.int (nI fo)), some (.int (nI len)), some (.int (nI (len - A1.length - A2.length)))] 58 []
      have hN1 : gh_N [A 31, A 32] g g1 := hN1.wd (by simp)
      have hg1 : g1 (A 30) = some (30, .inr (8, [.ref (A 7), .ref (A 10), .ref (A 20), .ref (A 31), .ref (A 33), .ref (A 34), .ref (A 36), .int (nI n)])) := by
        obtain ⟨fb, ⟨x1, x2, -⟩, -⟩ := id hb
        rw [hN1 (A 30) (by simp [gh_ne h0 x1 (by show (30 : Nat) ≠ 31; decide), gh_ne h0 x2 (by show (30 : Nat) ≠ 32; decide)]) (by rw [h0]; exact fun z => by cases z)]
        exact h0
      have kg1 : g1 q1 = g q1 := by
        obtain ⟨fb, ⟨x1, x2, -⟩, -⟩ := id hb
        exact hN1 q1 (by simp [gh_ne k1 x1 (by show t1 ≠ 31; simp at m1; omega), gh_ne k1 x2 (by show t1 ≠ 32; simp at m1; omega)]) (by rw [k1]; exact fun z => by cases z)
      have jg1 : g1 q2 = g q2 := by
        obtain ⟨fb, ⟨x1, x2, -⟩, -⟩ := id hb
        exact hN1 q2 (by simp [gh_ne j1 x1 (by show r1 ≠ 31; simp at l1; omega), gh_ne j1 x2 (by show r1 ≠ 32; simp at l1; omega)]) (by rw [j1]; exact fun z => by cases z)
      rw [k1] at kg1
      rw [j1] at jg1
      have sg1 := k2.N hN1 p1 p2
      have zg1 := j2.N hN1 p3 p4
      have og1 := ho.N hN1 p5 p6
      have ag1 := k3.M (hN1.M fun a ha => by
        obtain ⟨fb, ⟨x1, x2, -⟩, -⟩ := hb
        rcases List.mem_cons.mp ha with rfl | ha
        · exact ⟨_, _, x1, (by decide : 31 ∈ [31, 32])⟩
        · rw [List.mem_singleton.mp ha]; exact ⟨_, _, x2, (by decide : 32 ∈ [31, 32])⟩) (by simp at m2 ⊢; omega) (by simp at m3 ⊢; omega)
      refine gh_aload_n hK d_Sp_undo_58 rfl ?_
      refine gh_get hK d_Sp_undo_59 in_Sp rfl hg1 3 (by decide) kf_Sp_27 rfl rfl ?_
      refine gh_aload_n hK d_Sp_undo_62 rfl ?_
      refine gh_get hK d_Sp_undo_63 in_Ru rfl kg1 2 (by decide) kf_Sp_108 rfl rfl ?_
      refine gh_iconst (v := nI 0) hK d_Sp_undo_66 (by decide) ?_
      refine gh_aload_n hK d_Sp_undo_67 rfl ?_
      refine gh_get hK d_Sp_undo_68 in_Ru rfl kg1 2 (by decide) kf_Sp_108 rfl rfl ?_
      refine gh_callV (rest := [.int (nI 0), .ref sa, .ref (A 31)]) [] hK (c_Lt_count l G sg1) Y_Lt_count V_Lt_count km_Sp_71 sg1.ob rfl rfl d_Sp_undo_71 rfl rfl (Nat.le_of_ble_eq_true rfl) ⟨(Nat.le_of_ble_eq_true rfl), (Nat.le_of_ble_eq_true rfl)⟩ ⟨(Nat.le_of_ble_eq_true rfl), (Nat.le_of_ble_eq_true rfl)⟩ (fun v g' hp => ?_)
      rw [hp.1, hp.2]
      show gh_W l G _ X g1 _ _ [some (.ref (A 30)), some (.ref q1), some (.ref q2), some (.ref ta), some (.int (nI fo)), some (.int (nI len)), some (.int (nI (len - A1.length - A2.length)))] 74 [.int (nI S.length), .int (nI 0), .ref sa, .ref (A 31)]
      refine gh_callV (rest := []) [.ref sa, .int (nI 0), .int (nI S.length)] hK (c_Lt_appendAll l G hb1 sg1 p1 p2 (fr := 0) (len := S.length) (by omega) (by rw [List.length_nil]; omega)) Y_Lt_appendAll V_Lt_appendAll km_Sp_114 hb1.ob rfl rfl d_Sp_undo_74 rfl rfl (Nat.le_of_ble_eq_true rfl) ⟨(Nat.le_of_ble_eq_true rfl), (Nat.le_of_ble_eq_true rfl)⟩ ⟨(Nat.le_of_ble_eq_true rfl), (Nat.le_of_ble_eq_true rfl)⟩ (fun v g2 hp => ?_)
      obtain ⟨rfl, hb2, hN2⟩ := hp
      show gh_W l G _ X g2 _ _ [some (.ref (A 30)), some (.ref q1), some (.ref q2), some (.ref ta), some (.int (nI fo)), some (.int (nI len)), some (.int (nI (len - A1.length - A2.length)))] 77 []
      rw [List.drop_zero, List.take_length, List.nil_append] at hb2
      have hN2 := hN1.tr hN2
      have hg2 : g2 (A 30) = some (30, .inr (8, [.ref (A 7), .ref (A 10), .ref (A 20), .ref (A 31), .ref (A 33), .ref (A 34), .ref (A 36), .int (nI n)])) := by
        obtain ⟨fb, ⟨x1, x2, -⟩, -⟩ := id hb
        rw [hN2 (A 30) (by simp [gh_ne h0 x1 (by show (30 : Nat) ≠ 31; decide), gh_ne h0 x2 (by show (30 : Nat) ≠ 32; decide)]) (by rw [h0]; exact fun z => by cases z)]
        exact h0
      have kg2 : g2 q1 = g q1 := by
        obtain ⟨fb, ⟨x1, x2, -⟩, -⟩ := id hb
        exact hN2 q1 (by simp [gh_ne k1 x1 (by show t1 ≠ 31; simp at m1; omega), gh_ne k1 x2 (by show t1 ≠ 32; simp at m1; omega)]) (by rw [k1]; exact fun z => by cases z)
      have jg2 : g2 q2 = g q2 := by
        obtain ⟨fb, ⟨x1, x2, -⟩, -⟩ := id hb
        exact hN2 q2 (by simp [gh_ne j1 x1 (by show r1 ≠ 31; simp at l1; omega), gh_ne j1 x2 (by show r1 ≠ 32; simp at l1; omega)]) (by rw [j1]; exact fun z => by cases z)
      rw [k1] at kg2
      rw [j1] at jg2
      have sg2 := k2.N hN2 p1 p2
      have zg2 := j2.N hN2 p3 p4
      have og2 := ho.N hN2 p5 p6
      have ag2 := k3.M (hN2.M fun a ha => by
        obtain ⟨fb, ⟨x1, x2, -⟩, -⟩ := hb
        rcases List.mem_cons.mp ha with rfl | ha
        · exact ⟨_, _, x1, (by decide : 31 ∈ [31, 32])⟩
        · rw [List.mem_singleton.mp ha]; exact ⟨_, _, x2, (by decide : 32 ∈ [31, 32])⟩) (by simp at m2 ⊢; omega) (by simp at m3 ⊢; omega)
      refine gh_aload_n hK d_Sp_undo_77 rfl ?_
      refine gh_get hK d_Sp_undo_78 in_Sp rfl hg2 3 (by decide) kf_Sp_27 rfl rfl ?_
      refine gh_aload_n hK d_Sp_undo_81 rfl ?_
      refine gh_iload hK d_Sp_undo_82 rfl ?_
      refine gh_aload_n hK d_Sp_undo_84 rfl ?_
      refine gh_get hK d_Sp_undo_85 in_Ru rfl kg2 3 (by decide) kf_Sp_111 rfl rfl ?_
      refine gh_callV (rest := [.int (nI fo), .ref ta, .ref (A 31)]) [] hK (c_Lt_count l G ag2) Y_Lt_count V_Lt_count km_Sp_71 ag2.ob rfl rfl d_Sp_undo_88 rfl rfl (Nat.le_of_ble_eq_true rfl) ⟨(Nat.le_of_ble_eq_true rfl), (Nat.le_of_ble_eq_true rfl)⟩ ⟨(Nat.le_of_ble_eq_true rfl), (Nat.le_of_ble_eq_true rfl)⟩ (fun v g' hp => ?_)
      rw [hp.1, hp.2]
      show gh_W l G _ X g2 _ _ [some (.ref (A 30)), some (.ref q1), some (.ref q2), some (.ref ta), some (.int (nI fo)), some (.int (nI len)), some (.int (nI (len - A1.length - A2.length)))] 91 [.int (nI A1.length), .int (nI fo), .ref ta, .ref (A 31)]
      refine gh_addN hK d_Sp_undo_91 ?_
      refine gh_iload hK d_Sp_undo_92 rfl ?_
      refine gh_callV (rest := []) [.ref ta, .int (nI (fo + A1.length)), .int (nI (len - A1.length - A2.length))] hK (c_Lt_appendAll l G hb2 og2 p5 p6 (fr := fo + A1.length) (len := len - A1.length - A2.length) (by omega) (by omega)) Y_Lt_appendAll V_Lt_appendAll km_Sp_114 hb2.ob rfl rfl d_Sp_undo_94 rfl rfl (Nat.le_of_ble_eq_true rfl) ⟨(Nat.le_of_ble_eq_true rfl), (Nat.le_of_ble_eq_true rfl)⟩ ⟨(Nat.le_of_ble_eq_true rfl), (Nat.le_of_ble_eq_true rfl)⟩ (fun v g3 hp => ?_)
      obtain ⟨rfl, hb3, hN3⟩ := hp
      show gh_W l G _ X g3 _ _ [some (.ref (A 30)), some (.ref q1), some (.ref q2), some (.ref ta), some (.int (nI fo)), some (.int (nI len)), some (.int (nI (len - A1.length - A2.length)))] 97 []
      have hN3 := hN2.tr hN3
      have hg3 : g3 (A 30) = some (30, .inr (8, [.ref (A 7), .ref (A 10), .ref (A 20), .ref (A 31), .ref (A 33), .ref (A 34), .ref (A 36), .int (nI n)])) := by
        obtain ⟨fb, ⟨x1, x2, -⟩, -⟩ := id hb
        rw [hN3 (A 30) (by simp [gh_ne h0 x1 (by show (30 : Nat) ≠ 31; decide), gh_ne h0 x2 (by show (30 : Nat) ≠ 32; decide)]) (by rw [h0]; exact fun z => by cases z)]
        exact h0
      have kg3 : g3 q1 = g q1 := by
        obtain ⟨fb, ⟨x1, x2, -⟩, -⟩ := id hb
        exact hN3 q1 (by simp [gh_ne k1 x1 (by show t1 ≠ 31; simp at m1; omega), gh_ne k1 x2 (by show t1 ≠ 32; simp at m1; omega)]) (by rw [k1]; exact fun z => by cases z)
      have jg3 : g3 q2 = g q2 := by
        obtain ⟨fb, ⟨x1, x2, -⟩, -⟩ := id hb
        exact hN3 q2 (by simp [gh_ne j1 x1 (by show r1 ≠ 31; simp at l1; omega), gh_ne j1 x2 (by show r1 ≠ 32; simp at l1; omega)]) (by rw [j1]; exact fun z => by cases z)
      rw [k1] at kg3
      rw [j1] at jg3
      have sg3 := k2.N hN3 p1 p2
      have zg3 := j2.N hN3 p3 p4
      have og3 := ho.N hN3 p5 p6
      have ag3 := k3.M (hN3.M fun a ha => by
        obtain ⟨fb, ⟨x1, x2, -⟩, -⟩ := hb
        rcases List.mem_cons.mp ha with rfl | ha
        · exact ⟨_, _, x1, (by decide : 31 ∈ [31, 32])⟩
        · rw [List.mem_singleton.mp ha]; exact ⟨_, _, x2, (by decide : 32 ∈ [31, 32])⟩) (by simp at m2 ⊢; omega) (by simp at m3 ⊢; omega)
      refine gh_aload_n hK d_Sp_undo_97 rfl ?_
      refine gh_get hK d_Sp_undo_98 in_Sp rfl hg3 3 (by decide) kf_Sp_27 rfl rfl ?_
      refine gh_aload_n hK d_Sp_undo_101 rfl ?_
      refine gh_get hK d_Sp_undo_102 in_Ru rfl jg3 2 (by decide) kf_Sp_108 rfl rfl ?_
      refine gh_iconst (v := nI 0) hK d_Sp_undo_105 (by decide) ?_
      refine gh_aload_n hK d_Sp_undo_106 rfl ?_
      refine gh_get hK d_Sp_undo_107 in_Ru rfl jg3 2 (by decide) kf_Sp_108 rfl rfl ?_
      refine gh_callV (rest := [.int (nI 0), .ref sa2, .ref (A 31)]) [] hK (c_Lt_count l G zg3) Y_Lt_count V_Lt_count km_Sp_71 zg3.ob rfl rfl d_Sp_undo_110 rfl rfl (Nat.le_of_ble_eq_true rfl) ⟨(Nat.le_of_ble_eq_true rfl), (Nat.le_of_ble_eq_true rfl)⟩ ⟨(Nat.le_of_ble_eq_true rfl), (Nat.le_of_ble_eq_true rfl)⟩ (fun v g' hp => ?_)
      rw [hp.1, hp.2]
      show gh_W l G _ X g3 _ _ [some (.ref (A 30)), some (.ref q1), some (.ref q2), some (.ref ta), some (.int (nI fo)), some (.int (nI len)), some (.int (nI (len - A1.length - A2.length)))] 113 [.int (nI S2.length), .int (nI 0), .ref sa2, .ref (A 31)]
      refine gh_callV (rest := []) [.ref sa2, .int (nI 0), .int (nI S2.length)] hK (c_Lt_appendAll l G hb3 zg3 p3 p4 (fr := 0) (len := S2.length) (by omega) (by rw [List.length_append, slice_len (by omega)]; omega)) Y_Lt_appendAll V_Lt_appendAll km_Sp_114 hb3.ob rfl rfl d_Sp_undo_113 rfl rfl (Nat.le_of_ble_eq_true rfl) ⟨(Nat.le_of_ble_eq_true rfl), (Nat.le_of_ble_eq_true rfl)⟩ ⟨(Nat.le_of_ble_eq_true rfl), (Nat.le_of_ble_eq_true rfl)⟩ (fun v g4 hp => ?_)
      obtain ⟨rfl, hb4, hN4⟩ := hp
      show gh_W l G _ X g4 _ _ [some (.ref (A 30)), some (.ref q1), some (.ref q2), some (.ref ta), some (.int (nI fo)), some (.int (nI len)), some (.int (nI (len - A1.length - A2.length)))] 116 []
      rw [List.drop_zero, List.take_length] at hb4
      refine gh_iconst (v := nI 1) hK d_Sp_undo_116 (by decide) ?_
      have hn : undB (fl, S, A1, Cc) (fl2, S2, A2, C2) ((ys.drop fo).take len) = some (S ++ (ys.drop (fo + A1.length)).take (len - A1.length - A2.length) ++ S2) := by
        unfold undB
        dsimp only
        rw [if_pos (by rw [hsl]; exact ⟨hl, z2⟩), hsl, slice_sub (by omega)]
      exact gh_zret rfl hK hE d_Sp_undo_117 (Nat.le_of_ble_eq_true rfl) (Nat.le_of_ble_eq_true rfl) ⟨fun b hb => (by rw [hn] at hb; cases hb; exact ⟨rfl, hb4⟩), fun q => (by rw [hn] at q; cases q), hN3.tr hN4⟩
    · refine gh_iconst (v := nI 0) hK d_Sp_undo_49 (by decide) ?_
      have hn : undB (fl, S, A1, Cc) (fl2, S2, A2, C2) ((ys.drop fo).take len) = none := if_neg (by rw [hsl]; exact fun q => absurd q.2 (by dsimp only; omega))
      exact gh_zret rfl hK hE d_Sp_undo_50 (Nat.le_of_ble_eq_true rfl) (Nat.le_of_ble_eq_true rfl) ⟨fun b hb => (by rw [hn] at hb; cases hb), fun _ => ⟨rfl, rfl⟩, gh_N.rf⟩
  · refine gh_istore (lv' := [some (.ref (A 30)), some (.ref q1), some (.ref q2), some (.ref ta), some (.int (nI fo)), some (.int (nI len)), some (.int (nI len - nI A1.length - nI A2.length))]) hK d_Sp_undo_18 (Nat.le_of_ble_eq_true rfl) rfl ?_
    refine gh_iload hK d_Sp_undo_20 rfl ?_
    refine gh_iconst (v := nI 1) hK d_Sp_undo_22 (by decide) ?_
    refine gh_icmp_lt hK d_Sp_undo_23 (tgt := 49) (by decide) (fun z => ?_) (fun z => absurd (sub3_neg (by omega) (by omega) (by omega) (by omega)) z)
    refine gh_iconst (v := nI 0) hK d_Sp_undo_49 (by decide) ?_
    have hn : undB (fl, S, A1, Cc) (fl2, S2, A2, C2) ((ys.drop fo).take len) = none := if_neg (by rw [hsl]; exact fun q => hl q.1)
    exact gh_zret rfl hK hE d_Sp_undo_50 (Nat.le_of_ble_eq_true rfl) (Nat.le_of_ble_eq_true rfl) ⟨fun b hb => (by rw [hn] at hb; cases hb), fun _ => ⟨rfl, rfl⟩, gh_N.rf⟩
end
section
/-! what stays while a word is looked into -/
def FX (G : GG) (g : GH) (A : Nat → Nat) (es : List (Nat × List Nat × Nat)) (us1 us2 : List (Nat × RuR)) (tx : List Nat) : Prop := Dc G g (A 7) (A 8) es ∧ Rs G g (A 10) (A 11) (A 13) 10 true us1 ∧ Rs G g (A 20) (A 21) (A 23) 20 false us2 ∧ Lt G g (A 1) 1 (A 2) 2 2048 tx
theorem FX.M {G : GG} {g g' : GH} {A : Nat → Nat} {es : List (Nat × List Nat × Nat)} {us1 us2 : List (Nat × RuR)} {tx : List Nat} {S : List Nat} (h : FX G g A es us1 us2 tx) (hM : gh_M S g g') (h1 : ∀ t, t ∈ [1, 2, 7, 8, 9, 10, 11, 12, 13, 14, 15, 20, 21, 22, 23, 24, 25, 50, 51, 52, 60, 61, 62] → t ∉ S) : FX G g' A es us1 us2 tx := by
  refine ⟨h.1.M hM (fun t ht => h1 t ?_), h.2.1.M hM (fun t ht => h1 t ?_), h.2.2.1.M hM (fun t ht => h1 t ?_), h.2.2.2.M hM (h1 1 (by decide)) (h1 2 (by decide))⟩
  · simp at ht ⊢; omega
  · simp at ht ⊢; omega
  · simp at ht ⊢; omega
/-- flags are bits, there are few rules and entries, the words are in order -/
def FXb (es : List (Nat × List Nat × Nat)) (us1 us2 : List (Nat × RuR)) : Prop := srtL (dws es) ∧ es.length ≤ 300 ∧ us1.length ≤ 8 ∧ us2.length ≤ 8 ∧ (∀ x, x ∈ es → x.2.2 < 2 ^ 26) ∧ (∀ x, x ∈ us1 → x.2.1 < 2 ^ 26) ∧ ∀ x, x ∈ us2 → x.2.1 < 2 ^ 26
theorem rlN_fl {us : List (Nat × RuR)} (h : ∀ x, x ∈ us → x.2.1 < 2 ^ 26) (j : Nat) : (rlN us j).1 < 2 ^ 26 := by
  unfold rlN
  split
  · exact Nat.pow_pos (by omega)
  · cases hx : us[j - 1]? with
    | none => exact Nat.pow_pos (by omega)
    | some x => exact h x (List.mem_of_getElem? hx)
/-- a way in which w is a form of an entry, by the prefix p and the suffix s -/
def wyM (es : List (Nat × List Nat × Nat)) (u1 u2 : RuR) (p s : Nat) (w : List Nat) : Option Nat := if stO true u1.2.2.1 w = true ∧ stO false u2.2.2.1 w = true then (match undB u1 u2 w with
  | none => none
  | some b => match es[rnkL b (dws es)]? with
    | none => none
    | some x => if x.2.1 = b ∧ goO true u1.1 u1.2.1 u1.2.2.2 x.2.1 x.2.2 = true ∧ goO false u2.1 u2.2.1 u2.2.2.2 x.2.1 x.2.2 = true then some ((rnkL b (dws es) * 9 + p) * 9 + s) else none) else none
def wyP (lim : Nat) (ws : List Nat) (o : Option Nat) : List Nat := if ws.length < lim then (match o with
  | some c => insA ws (posN c ws) c
  | none => ws) else ws
def wyS (es : List (Nat × List Nat × Nat)) (u1 : RuR) (us2 : List (Nat × RuR)) (p lim : Nat) (w : List Nat) : Nat → Nat → List Nat → List Nat
  | 0, _, ws => ws
  | k + 1, s, ws => wyS es u1 us2 p lim w k (s + 1) (wyP lim ws (wyM es u1 (rlN us2 s) p s w))
def wyO (es : List (Nat × List Nat × Nat)) (us1 us2 : List (Nat × RuR)) (lim : Nat) (w : List Nat) : Nat → Nat → List Nat → List Nat
  | 0, _, ws => ws
  | k + 1, p, ws => wyO es us1 us2 lim w k (p + 1) (wyS es (rlN us1 p) us2 p lim w (us2.length + 1) 0 ws)
theorem wyP_full {lim : Nat} {ws : List Nat} (h : lim ≤ ws.length) (o : Option Nat) : wyP lim ws o = ws := if_neg (by omega)
theorem wyS_full {es : List (Nat × List Nat × Nat)} {u1 : RuR} {us2 : List (Nat × RuR)} {p lim : Nat} {w : List Nat} {ws : List Nat} (h : lim ≤ ws.length) : ∀ k s, wyS es u1 us2 p lim w k s ws = ws
  | 0, _ => rfl
  | k + 1, s => by rw [wyS, wyP_full h]; exact wyS_full h k (s + 1)
theorem wyO_full {es : List (Nat × List Nat × Nat)} {us1 us2 : List (Nat × RuR)} {lim : Nat} {w : List Nat} {ws : List Nat} (h : lim ≤ ws.length) : ∀ k p, wyO es us1 us2 lim w k p ws = ws
  | 0, _ => rfl
  | k + 1, p => by rw [wyO, wyS_full h]; exact wyO_full h k (p + 1)
theorem wyP_none (lim : Nat) (ws : List Nat) : wyP lim ws none = ws := by unfold wyP; split <;> rfl
theorem wyS_no {es : List (Nat × List Nat × Nat)} {u1 : RuR} {us2 : List (Nat × RuR)} {p lim : Nat} {w : List Nat} {ws : List Nat} (h : stO true u1.2.2.1 w = false) : ∀ k s, wyS es u1 us2 p lim w k s ws = ws
  | 0, _ => rfl
  | k + 1, s => by
    rw [wyS, show wyM es u1 (rlN us2 s) p s w = none from if_neg (fun q => by rw [h] at q; cases q.1), wyP_none]
    exact wyS_no h k (s + 1)
/-- the state while ways are sought -/
def WyI (G : GG) (g0 g : GH) (A : Nat → Nat) (ws : List Nat) : Prop := SpO g A ws.length ∧ Wy G g A ws ∧ srtN ws ∧ ws.length ≤ 81 ∧ (∀ y, y ∈ ws → y < 1000000) ∧ (∃ bs, Lt G g (A 31) 31 (A 32) 32 16 bs) ∧ gh_M [30, 31, 32, 33] g0 g
set_option maxRecDepth 20000 in
set_option maxHeartbeats 4000000 in
theorem c_Sp_findWays (l : Launch) (G : GG) {g : GH} {A : Nat → Nat} {ws : List Nat} {es : List (Nat × List Nat × Nat)} {us1 us2 : List (Nat × RuR)} {tx : List Nat} {fo len lim : Nat} (hi : WyI G g g A ws) (hfx : FX G g A es us1 us2 tx) (hfb : FXb es us1 us2) (hf : fo + len ≤ tx.length) (hlim : lim ≤ 81) : gMet l G y_Sp_findWays b_Sp_findWays 11 (some .int) (rmk 5 0 0 110) [.ref (A 30), .ref (A 1), .int (nI fo), .int (nI len), .int (nI lim)] g (fun v g' => v = some (.int (nI (wyO es us1 us2 lim ((tx.drop fo).take len) (us1.length + 1) 0 []).length)) ∧ WyI G g g' A (wyO es us1 us2 lim ((tx.drop fo).take len) (us1.length + 1) 0 [])) := by
  refine gMet.of [some (.ref (A 30)), some (.ref (A 1)), some (.int (nI fo)), some (.int (nI len)), some (.int (nI lim)), none, none, none, none, none, none] (by decide +kernel) rfl (Nat.le_of_ble_eq_true rfl) rfl (fun X hK hI hE => ?_)
  obtain ⟨fb1, fb2, fb3, fb4, fb5, fb6, fb7⟩ := hfb
  obtain ⟨bl1, bl2⟩ := hfx.2.2.2.len
  have inner : ∀ (R0 : List Nat) (p q1 : Nat) (u1 : RuR), u1 = rlN us1 p → p ≤ 8 → stO true u1.2.2.1 ((tx.drop fo).take len) = true → (∀ (g2 : GH) (ws2 : List Nat) (o7 o8 o9 o10 : Option Value), WyI G g g2 A ws2 → ws2 = R0 → gh_W l G (rmk 5 0 0 110) X g2 0 0 [some (.ref (A 30)), some (.ref (A 1)), some (.int (nI fo)), some (.int (nI len)), some (.int (nI lim)), some (.int (nI p)), some (.ref q1), o7, o8, o9, o10] 210 []) → ∀ (m s : Nat) (g1 : GH) (ws1 : List Nat) (o8 o9 o10 : Option Value), s + m = us2.length + 1 → WyI G g g1 A ws1 → RuX G g q1 true u1 → wyS es u1 us2 p lim ((tx.drop fo).take len) m s ws1 = R0 → gh_W l G (rmk 5 0 0 110) X g1 0 0 [some (.ref (A 30)), some (.ref (A 1)), some (.int (nI fo)), some (.int (nI len)), some (.int (nI lim)), some (.int (nI p)), some (.ref q1), some (.int (nI s)), o8, o9, o10] 57 [] := by
    intro R0 p q1 u1 hu1 hp8 hst out m
    induction m with
    | zero =>
      intro s g1 ws1 o8 o9 o10 hs hi1 hq1 hR
      obtain ⟨i1, i2, i3, i4, i5, ⟨bs, i6⟩, i7⟩ := id hi1
      have fx := hfx.M i7 (by decide)
      have i1 : g1 (A 30) = some (30, .inr (8, [.ref (A 7), .ref (A 10), .ref (A 20), .ref (A 31), .ref (A 33), .ref (A 34), .ref (A 36), .int (nI ws1.length)])) := i1
      refine gh_iload hK d_Sp_findWays_57 rfl ?_
      refine gh_aload_n hK d_Sp_findWays_59 rfl ?_
      refine gh_get hK d_Sp_findWays_60 in_Sp rfl i1 2 (by decide) kf_Sp_19 rfl rfl ?_
      refine gh_callV (rest := [.int (nI s)]) [] hK (c_Rs_count l G fx.2.2.1) Y_Rs_count V_Rs_count km_Sp_51 fx.2.2.1.1 rfl rfl d_Sp_findWays_63 rfl rfl (Nat.le_of_ble_eq_true rfl) ⟨(Nat.le_of_ble_eq_true rfl), (Nat.le_of_ble_eq_true rfl)⟩ ⟨(Nat.le_of_ble_eq_true rfl), (Nat.le_of_ble_eq_true rfl)⟩ (fun v g' hp => ?_)
      rw [hp.1, hp.2]
      show gh_W l G _ X g1 _ _ [some (.ref (A 30)), some (.ref (A 1)), some (.int (nI fo)), some (.int (nI len)), some (.int (nI lim)), some (.int (nI p)), some (.ref q1), some (.int (nI s)), o8, o9, o10] 66 [.int (nI us2.length), .int (nI s)]
      refine gh_icmp_gtN hK d_Sp_findWays_66 (tgt := 210) (by decide) (by omega) (by omega) (fun z => ?_) (fun z => absurd z (by omega))
      exact out g1 ws1 _ o8 o9 o10 hi1 hR
    | succ m ih =>
      intro s g1 ws1 o8 o9 o10 hs hi1 hq1 hR
      obtain ⟨i1, i2, i3, i4, i5, ⟨bs, i6⟩, i7⟩ := id hi1
      have fx := hfx.M i7 (by decide)
      have i0 := i1
      have i1 : g1 (A 30) = some (30, .inr (8, [.ref (A 7), .ref (A 10), .ref (A 20), .ref (A 31), .ref (A 33), .ref (A 34), .ref (A 36), .int (nI ws1.length)])) := i1
      refine gh_iload hK d_Sp_findWays_57 rfl ?_
      refine gh_aload_n hK d_Sp_findWays_59 rfl ?_
      refine gh_get hK d_Sp_findWays_60 in_Sp rfl i1 2 (by decide) kf_Sp_19 rfl rfl ?_
      refine gh_callV (rest := [.int (nI s)]) [] hK (c_Rs_count l G fx.2.2.1) Y_Rs_count V_Rs_count km_Sp_51 fx.2.2.1.1 rfl rfl d_Sp_findWays_63 rfl rfl (Nat.le_of_ble_eq_true rfl) ⟨(Nat.le_of_ble_eq_true rfl), (Nat.le_of_ble_eq_true rfl)⟩ ⟨(Nat.le_of_ble_eq_true rfl), (Nat.le_of_ble_eq_true rfl)⟩ (fun v g' hp => ?_)
      rw [hp.1, hp.2]
      show gh_W l G _ X g1 _ _ [some (.ref (A 30)), some (.ref (A 1)), some (.int (nI fo)), some (.int (nI len)), some (.int (nI lim)), some (.int (nI p)), some (.ref q1), some (.int (nI s)), o8, o9, o10] 66 [.int (nI us2.length), .int (nI s)]
      refine gh_icmp_gtN hK d_Sp_findWays_66 (tgt := 210) (by decide) (by omega) (by omega) (fun z => absurd z (by omega)) (fun z => ?_)
      refine gh_aload_n hK d_Sp_findWays_69 rfl ?_
      refine gh_get hK d_Sp_findWays_70 in_Sp rfl i1 7 (by decide) kf_Sp_47 rfl rfl ?_
      refine gh_iload hK d_Sp_findWays_73 rfl ?_
      refine gh_icmp_geN hK d_Sp_findWays_75 (tgt := 210) (by decide) (by omega) (by omega) (fun z2 => ?_) (fun z2 => ?_)
      · exact out g1 ws1 _ o8 o9 o10 hi1 (by rw [← hR, wyS_full z2])
      · rw [wyS] at hR
        have nxt : ∀ (g2 : GH) (ws2 : List Nat) (o8 o9 o10 : Option Value), WyI G g g2 A ws2 → ws2 = wyP lim ws1 (wyM es u1 (rlN us2 s) p s ((tx.drop fo).take len)) → gh_W l G (rmk 5 0 0 110) X g2 0 0 [some (.ref (A 30)), some (.ref (A 1)), some (.int (nI fo)), some (.int (nI len)), some (.int (nI lim)), some (.int (nI p)), some (.ref q1), some (.int (nI s)), o8, o9, o10] 204 [] := by
          intro g2 ws2 o8 o9 o10 hi2 he
          refine gh_incN (lv' := [some (.ref (A 30)), some (.ref (A 1)), some (.int (nI fo)), some (.int (nI len)), some (.int (nI lim)), some (.int (nI p)), some (.ref q1), some (.int (nI (s + 1))), o8, o9, o10]) hK d_Sp_findWays_204 rfl rfl ?_
          refine gh_goto (tgt := 57) hK d_Sp_findWays_207 (by decide) ?_
          exact ih (s + 1) g2 ws2 o8 o9 o10 (by omega) hi2 hq1 (by rw [he]; exact hR)
        refine gh_aload_n hK d_Sp_findWays_78 rfl ?_
        refine gh_get hK d_Sp_findWays_79 in_Sp rfl i1 2 (by decide) kf_Sp_19 rfl rfl ?_
        refine gh_iload hK d_Sp_findWays_82 rfl ?_
        have hq2 := fx.2.2.1.x (Or.inr rfl) (j := s) (by omega)
        generalize hQ2 : rlA (A 23) us2 s = q2 at hq2
        refine gh_callV (rest := []) [.int (nI s)] hK (c_Rs_at l G fx.2.2.1 (Or.inr rfl) (j := s) (by omega)) Y_Rs_at V_Rs_at km_Sp_57 fx.2.2.1.1 rfl rfl d_Sp_findWays_84 rfl rfl (Nat.le_of_ble_eq_true rfl) ⟨(Nat.le_of_ble_eq_true rfl), (Nat.le_of_ble_eq_true rfl)⟩ ⟨(Nat.le_of_ble_eq_true rfl), (Nat.le_of_ble_eq_true rfl)⟩ (fun v g' hp => ?_)
        rw [hp.1, hp.2, hQ2]
        show gh_W l G _ X g1 _ _ [some (.ref (A 30)), some (.ref (A 1)), some (.int (nI fo)), some (.int (nI len)), some (.int (nI lim)), some (.int (nI p)), some (.ref q1), some (.int (nI s)), o8, o9, o10] 87 [.ref q2]
        have hu2f := rlN_fl fb7 s
        generalize hu2 : rlN us2 s = u2 at hq2 hu2f nxt hR
        obtain ⟨tt1, tt2, tt3, mm1, mm2, mm3, ru2⟩ := id hq2
        have hq1g := hq1.M i7 (by decide)
        obtain ⟨vv1, vv2, vv3, nn1, nn2, nn3, ru1⟩ := id hq1g
        obtain ⟨x1, x2, x3, x4, x5, x6, rb2, -⟩ := id ru2
        obtain ⟨y1, y2, y3, y4, y5, y6, rb1, -⟩ := id ru1
        refine gh_astore (lv' := [some (.ref (A 30)), some (.ref (A 1)), some (.int (nI fo)), some (.int (nI len)), some (.int (nI lim)), some (.int (nI p)), some (.ref q1), some (.int (nI s)), some (.ref q2), o9, o10]) hK d_Sp_findWays_87 (Nat.le_of_ble_eq_true rfl) rfl ?_
        refine gh_aload hK d_Sp_findWays_89 rfl ?_
        refine gh_aload_n hK d_Sp_findWays_91 rfl ?_
        refine gh_iload_n hK d_Sp_findWays_92 rfl ?_
        refine gh_iload_n hK d_Sp_findWays_93 rfl ?_
        refine gh_callV (rest := []) [.ref (A 1), .int (nI fo), .int (nI len)] hK (c_Ru_addStands l G ru2 fx.2.2.2 hf) Y_Ru_addStands V_Ru_addStands km_Sp_61 rb2 rfl rfl d_Sp_findWays_94 rfl rfl (Nat.le_of_ble_eq_true rfl) ⟨(Nat.le_of_ble_eq_true rfl), (Nat.le_of_ble_eq_true rfl)⟩ ⟨(Nat.le_of_ble_eq_true rfl), (Nat.le_of_ble_eq_true rfl)⟩ (fun v g' hp => ?_)
        rw [hp.1, hp.2]
        show gh_W l G _ X g1 _ _ [some (.ref (A 30)), some (.ref (A 1)), some (.int (nI fo)), some (.int (nI len)), some (.int (nI lim)), some (.int (nI p)), some (.ref q1), some (.int (nI s)), some (.ref q2), o9, o10] 97 [.int (nI (bn (stO false u2.2.2.1 ((tx.drop fo).take len))))]
        refine gh_if_eqB hK d_Sp_findWays_97 (tgt := 204) (by decide) (fun z3 => ?_) (fun z3 => ?_)
        · exact nxt g1 ws1 _ o9 o10 hi1 (by rw [show wyM es u1 u2 p s ((tx.drop fo).take len) = none from if_neg (fun q => by rw [z3] at q; cases q.2), wyP_none])
        · cases hud : undB u1 u2 ((tx.drop fo).take len) with
          | none =>
            refine gh_aload_n hK d_Sp_findWays_100 rfl ?_
            refine gh_aload hK d_Sp_findWays_101 rfl ?_
            refine gh_aload hK d_Sp_findWays_103 rfl ?_
            refine gh_aload_n hK d_Sp_findWays_105 rfl ?_
            refine gh_iload_n hK d_Sp_findWays_106 rfl ?_
            refine gh_iload_n hK d_Sp_findWays_107 rfl ?_
            refine gh_callV (rest := []) [.ref q1, .ref q2, .ref (A 1), .int (nI fo), .int (nI len)] hK (c_Sp_undo l G i0 i6 hq1g hq2 fx.2.2.2 hf) Y_Sp_undo V_Sp_undo km_Sp_67 i1 rfl rfl d_Sp_findWays_108 rfl rfl (Nat.le_of_ble_eq_true rfl) ⟨(Nat.le_of_ble_eq_true rfl), (Nat.le_of_ble_eq_true rfl)⟩ ⟨(Nat.le_of_ble_eq_true rfl), (Nat.le_of_ble_eq_true rfl)⟩ (fun v g' hp => ?_)
            rw [(hp.2.1 hud).1, (hp.2.1 hud).2]
            show gh_W l G _ X g1 _ _ [some (.ref (A 30)), some (.ref (A 1)), some (.int (nI fo)), some (.int (nI len)), some (.int (nI lim)), some (.int (nI p)), some (.ref q1), some (.int (nI s)), some (.ref q2), o9, o10] 111 [.int (nI 0)]
            refine gh_if_neN hK d_Sp_findWays_111 (tgt := 117) (by decide) (by decide) (fun z => absurd z (by decide)) (fun z => ?_)
            refine gh_goto (tgt := 204) hK d_Sp_findWays_114 (by decide) ?_
            exact nxt g1 ws1 _ o9 o10 hi1 (by rw [show wyM es u1 u2 p s ((tx.drop fo).take len) = none from by rw [wyM, if_pos ⟨hst, z3⟩, hud], wyP_none])
          | some b =>
            refine gh_aload_n hK d_Sp_findWays_100 rfl ?_
            refine gh_aload hK d_Sp_findWays_101 rfl ?_
            refine gh_aload hK d_Sp_findWays_103 rfl ?_
            refine gh_aload_n hK d_Sp_findWays_105 rfl ?_
            refine gh_iload_n hK d_Sp_findWays_106 rfl ?_
            refine gh_iload_n hK d_Sp_findWays_107 rfl ?_
            refine gh_callV (rest := []) [.ref q1, .ref q2, .ref (A 1), .int (nI fo), .int (nI len)] hK (c_Sp_undo l G i0 i6 hq1g hq2 fx.2.2.2 hf) Y_Sp_undo V_Sp_undo km_Sp_67 i1 rfl rfl d_Sp_findWays_108 rfl rfl (Nat.le_of_ble_eq_true rfl) ⟨(Nat.le_of_ble_eq_true rfl), (Nat.le_of_ble_eq_true rfl)⟩ ⟨(Nat.le_of_ble_eq_true rfl), (Nat.le_of_ble_eq_true rfl)⟩ (fun v g2 hp => ?_)
            obtain ⟨hv, hb2⟩ := hp.1 b hud
            have hN2 := hp.2.2
            rw [hv]
            show gh_W l G _ X g2 _ _ [some (.ref (A 30)), some (.ref (A 1)), some (.int (nI fo)), some (.int (nI len)), some (.int (nI lim)), some (.int (nI p)), some (.ref q1), some (.int (nI s)), some (.ref q2), o9, o10] 111 [.int (nI 1)]
            have hM2 : gh_M [30, 31, 32, 33] g1 g2 := hN2.M fun a ha => by
              obtain ⟨fb, ⟨xx1, xx2, -⟩, -⟩ := i6
              rcases List.mem_cons.mp ha with rfl | ha
              · exact ⟨_, _, xx1, by decide⟩
              · rw [List.mem_singleton.mp ha]; exact ⟨_, _, xx2, by decide⟩
            have hM3 : gh_M [31, 32] g1 g2 := hN2.M fun a ha => by
              obtain ⟨fb, ⟨xx1, xx2, -⟩, -⟩ := i6
              rcases List.mem_cons.mp ha with rfl | ha
              · exact ⟨_, _, xx1, by decide⟩
              · rw [List.mem_singleton.mp ha]; exact ⟨_, _, xx2, by decide⟩
            have c0 := SpO.M i0 hM3 (by decide)
            have c1 : g2 (A 30) = some (30, .inr (8, [.ref (A 7), .ref (A 10), .ref (A 20), .ref (A 31), .ref (A 33), .ref (A 34), .ref (A 36), .int (nI ws1.length)])) := c0
            have hi2 : WyI G g g2 A ws1 := ⟨c0, i2.M hM3 (by decide), i3, i4, i5, ⟨b, hb2⟩, i7.tr hM2⟩
            have fx2 := fx.M hM2 (by decide)
            have hq12 := hq1g.M hM2 (by decide)
            have hq22 := hq2.M hM2 (by decide)
            obtain ⟨hbl, hbl2⟩ := hb2.len
            have eb : (b.drop 0).take b.length = b := by rw [List.drop_zero, List.take_length]
            refine gh_if_neN hK d_Sp_findWays_111 (tgt := 117) (by decide) (by decide) (fun z => ?_) (fun z => absurd z (by decide))
            refine gh_aload_n hK d_Sp_findWays_117 rfl ?_
            refine gh_get hK d_Sp_findWays_118 in_Sp rfl c1 0 (by decide) kf_Sp_9 rfl rfl ?_
            refine gh_aload_n hK d_Sp_findWays_121 rfl ?_
            refine gh_get hK d_Sp_findWays_122 in_Sp rfl c1 3 (by decide) kf_Sp_27 rfl rfl ?_
            refine gh_iconst (v := nI 0) hK d_Sp_findWays_125 (by decide) ?_
            refine gh_aload_n hK d_Sp_findWays_126 rfl ?_
            refine gh_get hK d_Sp_findWays_127 in_Sp rfl c1 3 (by decide) kf_Sp_27 rfl rfl ?_
            refine gh_callV (rest := [.int (nI 0), .ref (A 31), .ref (A 7)]) [] hK (c_Lt_count l G hb2) Y_Lt_count V_Lt_count km_Sp_71 hb2.ob rfl rfl d_Sp_findWays_130 rfl rfl (Nat.le_of_ble_eq_true rfl) ⟨(Nat.le_of_ble_eq_true rfl), (Nat.le_of_ble_eq_true rfl)⟩ ⟨(Nat.le_of_ble_eq_true rfl), (Nat.le_of_ble_eq_true rfl)⟩ (fun v g' hp => ?_)
            rw [hp.1, hp.2]
            show gh_W l G _ X g2 _ _ [some (.ref (A 30)), some (.ref (A 1)), some (.int (nI fo)), some (.int (nI len)), some (.int (nI lim)), some (.int (nI p)), some (.ref q1), some (.int (nI s)), some (.ref q2), o9, o10] 133 [.int (nI b.length), .int (nI 0), .ref (A 31), .ref (A 7)]
            refine gh_callV (rest := []) [.ref (A 31), .int (nI 0), .int (nI b.length)] hK (c_Dc_rankOf l G fx2.1 fb1 hb2 (fr := 0) (len := b.length) (by omega)) Y_Dc_rankOf V_Dc_rankOf km_Sp_72 fx2.1.1 rfl rfl d_Sp_findWays_133 rfl rfl (Nat.le_of_ble_eq_true rfl) ⟨(Nat.le_of_ble_eq_true rfl), (Nat.le_of_ble_eq_true rfl)⟩ ⟨(Nat.le_of_ble_eq_true rfl), (Nat.le_of_ble_eq_true rfl)⟩ (fun v g' hp => ?_)
            rw [hp.1, hp.2]
            show gh_W l G _ X g2 _ _ [some (.ref (A 30)), some (.ref (A 1)), some (.int (nI fo)), some (.int (nI len)), some (.int (nI lim)), some (.int (nI p)), some (.ref q1), some (.int (nI s)), some (.ref q2), o9, o10] 136 [.int (nI (rnkL ((b.drop 0).take b.length) (dws es)))]
            rw [eb]
            have hrk := rnkL_le b (dws es)
            rw [show (dws es).length = es.length from List.length_map ..] at hrk
            refine gh_istore (lv' := [some (.ref (A 30)), some (.ref (A 1)), some (.int (nI fo)), some (.int (nI len)), some (.int (nI lim)), some (.int (nI p)), some (.ref q1), some (.int (nI s)), some (.ref q2), some (.int (nI (rnkL b (dws es)))), o10]) hK d_Sp_findWays_136 (Nat.le_of_ble_eq_true rfl) rfl ?_
            refine gh_aload_n hK d_Sp_findWays_138 rfl ?_
            refine gh_get hK d_Sp_findWays_139 in_Sp rfl c1 0 (by decide) kf_Sp_9 rfl rfl ?_
            refine gh_iload hK d_Sp_findWays_142 rfl ?_
            refine gh_aload_n hK d_Sp_findWays_144 rfl ?_
            refine gh_get hK d_Sp_findWays_145 in_Sp rfl c1 3 (by decide) kf_Sp_27 rfl rfl ?_
            refine gh_iconst (v := nI 0) hK d_Sp_findWays_148 (by decide) ?_
            refine gh_aload_n hK d_Sp_findWays_149 rfl ?_
            refine gh_get hK d_Sp_findWays_150 in_Sp rfl c1 3 (by decide) kf_Sp_27 rfl rfl ?_
            refine gh_callV (rest := [.int (nI 0), .ref (A 31), .int (nI (rnkL b (dws es))), .ref (A 7)]) [] hK (c_Lt_count l G hb2) Y_Lt_count V_Lt_count km_Sp_71 hb2.ob rfl rfl d_Sp_findWays_153 rfl rfl (Nat.le_of_ble_eq_true rfl) ⟨(Nat.le_of_ble_eq_true rfl), (Nat.le_of_ble_eq_true rfl)⟩ ⟨(Nat.le_of_ble_eq_true rfl), (Nat.le_of_ble_eq_true rfl)⟩ (fun v g' hp => ?_)
            rw [hp.1, hp.2]
            show gh_W l G _ X g2 _ _ [some (.ref (A 30)), some (.ref (A 1)), some (.int (nI fo)), some (.int (nI len)), some (.int (nI lim)), some (.int (nI p)), some (.ref q1), some (.int (nI s)), some (.ref q2), some (.int (nI (rnkL b (dws es)))), o10] 156 [.int (nI b.length), .int (nI 0), .ref (A 31), .int (nI (rnkL b (dws es))), .ref (A 7)]
            by_cases hex : ∃ x, es[rnkL b (dws es)]? = some x ∧ x.2.1 = b
            · obtain ⟨x, hx, hxb⟩ := hex
              obtain ⟨wa, wb, en1, en2⟩ := id (fx2.1.2.2 x (List.mem_of_getElem? hx))
              have hen := fx2.1.2.2 x (List.mem_of_getElem? hx)
              have hxf := fb5 x (List.mem_of_getElem? hx)
              refine gh_callV (rest := []) [.int (nI (rnkL b (dws es))), .ref (A 31), .int (nI 0), .int (nI b.length)] hK (c_Dc_atW l G fx2.1 (j := rnkL b (dws es)) (by omega) hb2 (fr := 0) (len := b.length) (by omega)) Y_Dc_at V_Dc_at km_Sp_78 fx2.1.1 rfl rfl d_Sp_findWays_156 rfl rfl (Nat.le_of_ble_eq_true rfl) ⟨(Nat.le_of_ble_eq_true rfl), (Nat.le_of_ble_eq_true rfl)⟩ ⟨(Nat.le_of_ble_eq_true rfl), (Nat.le_of_ble_eq_true rfl)⟩ (fun v g' hp => ?_)
              rw [eb] at hp
              rw [hp.1 x hx hxb, hp.2.2]
              show gh_W l G _ X g2 _ _ [some (.ref (A 30)), some (.ref (A 1)), some (.int (nI fo)), some (.int (nI len)), some (.int (nI lim)), some (.int (nI p)), some (.ref q1), some (.int (nI s)), some (.ref q2), some (.int (nI (rnkL b (dws es)))), o10] 159 [.ref x.1]
              refine gh_astore (lv' := [some (.ref (A 30)), some (.ref (A 1)), some (.int (nI fo)), some (.int (nI len)), some (.int (nI lim)), some (.int (nI p)), some (.ref q1), some (.int (nI s)), some (.ref q2), some (.int (nI (rnkL b (dws es)))), some (.ref x.1)]) hK d_Sp_findWays_159 (Nat.le_of_ble_eq_true rfl) rfl ?_
              refine gh_aload hK d_Sp_findWays_161 rfl ?_
              refine gh_ifnull hK d_Sp_findWays_163 ?_
              refine gh_aload hK d_Sp_findWays_166 rfl ?_
              refine gh_aload hK d_Sp_findWays_168 rfl ?_
              obtain ⟨a1, a2, a3, a4, a5, a6, w1⟩ := id hq12
              obtain ⟨b1, b2, b3, b4, b5, b6, w2⟩ := id hq22
              obtain ⟨aa1, aa2, aa3, aa4, aa5, aa6, d1, -⟩ := id w1
              obtain ⟨bb1, bb2, bb3, bb4, bb5, bb6, d2, -⟩ := id w2
              have hu1f : u1.1 < 2 ^ 26 := by rw [hu1]; exact rlN_fl fb6 p
              refine gh_callV (rest := []) [.ref x.1] hK (c_Ru_goesWith l G w1 hen hu1f hxf) Y_Ru_goesWith V_Ru_goesWith km_Sp_81 d1 rfl rfl d_Sp_findWays_170 rfl rfl (Nat.le_of_ble_eq_true rfl) ⟨(Nat.le_of_ble_eq_true rfl), (Nat.le_of_ble_eq_true rfl)⟩ ⟨(Nat.le_of_ble_eq_true rfl), (Nat.le_of_ble_eq_true rfl)⟩ (fun v g' hp => ?_)
              rw [hp.1, hp.2]
              show gh_W l G _ X g2 _ _ [some (.ref (A 30)), some (.ref (A 1)), some (.int (nI fo)), some (.int (nI len)), some (.int (nI lim)), some (.int (nI p)), some (.ref q1), some (.int (nI s)), some (.ref q2), some (.int (nI (rnkL b (dws es)))), some (.ref x.1)] 173 [.int (nI (bn (goO true u1.1 u1.2.1 u1.2.2.2 x.2.1 x.2.2)))]
              refine gh_if_eqB hK d_Sp_findWays_173 (tgt := 204) (by decide) (fun z5 => ?_) (fun z5 => ?_)
              · exact nxt g2 ws1 _ _ _ hi2 (by rw [show wyM es u1 u2 p s ((tx.drop fo).take len) = none by rw [wyM, if_pos ⟨hst, z3⟩, hud]; dsimp only; rw [hx]; exact if_neg (fun q => by rw [z5] at q; cases q.2.1), wyP_none])
              · refine gh_aload hK d_Sp_findWays_176 rfl ?_
                refine gh_aload hK d_Sp_findWays_178 rfl ?_
                refine gh_callV (rest := []) [.ref x.1] hK (c_Ru_goesWith l G w2 hen hu2f hxf) Y_Ru_goesWith V_Ru_goesWith km_Sp_81 d2 rfl rfl d_Sp_findWays_180 rfl rfl (Nat.le_of_ble_eq_true rfl) ⟨(Nat.le_of_ble_eq_true rfl), (Nat.le_of_ble_eq_true rfl)⟩ ⟨(Nat.le_of_ble_eq_true rfl), (Nat.le_of_ble_eq_true rfl)⟩ (fun v g' hp => ?_)
                rw [hp.1, hp.2]
                show gh_W l G _ X g2 _ _ [some (.ref (A 30)), some (.ref (A 1)), some (.int (nI fo)), some (.int (nI len)), some (.int (nI lim)), some (.int (nI p)), some (.ref q1), some (.int (nI s)), some (.ref q2), some (.int (nI (rnkL b (dws es)))), some (.ref x.1)] 183 [.int (nI (bn (goO false u2.1 u2.2.1 u2.2.2.2 x.2.1 x.2.2)))]
                refine gh_if_eqB hK d_Sp_findWays_183 (tgt := 204) (by decide) (fun z6 => ?_) (fun z6 => ?_)
                · exact nxt g2 ws1 _ _ _ hi2 (by rw [show wyM es u1 u2 p s ((tx.drop fo).take len) = none by rw [wyM, if_pos ⟨hst, z3⟩, hud]; dsimp only; rw [hx]; exact if_neg (fun q => by rw [z6] at q; cases q.2.2), wyP_none])
                · refine gh_aload_n hK d_Sp_findWays_186 rfl ?_
                  refine gh_iload hK d_Sp_findWays_187 rfl ?_
                  refine gh_bipush (v := nI 9) hK d_Sp_findWays_189 (by decide) ?_
                  refine gh_mulN hK d_Sp_findWays_191 ?_
                  refine gh_iload hK d_Sp_findWays_192 rfl ?_
                  refine gh_addN hK d_Sp_findWays_194 ?_
                  refine gh_bipush (v := nI 9) hK d_Sp_findWays_195 (by decide) ?_
                  refine gh_mulN hK d_Sp_findWays_197 ?_
                  refine gh_iload hK d_Sp_findWays_198 rfl ?_
                  refine gh_addN hK d_Sp_findWays_200 ?_
                  refine gh_callV (rest := []) [.int (nI (((((rnkL b (dws es)) * 9) + p) * 9) + s))] hK (c_Sp_putWay l G c0 hi2.2.1 (by omega) i3 (fun y hy => by have := i5 y hy; omega) (x := (rnkL b (dws es) * 9 + p) * 9 + s) (by omega)) Y_Sp_putWay V_Sp_putWay km_Sp_85 c1 rfl rfl d_Sp_findWays_201 rfl rfl (Nat.le_of_ble_eq_true rfl) ⟨(Nat.le_of_ble_eq_true rfl), (Nat.le_of_ble_eq_true rfl)⟩ ⟨(Nat.le_of_ble_eq_true rfl), (Nat.le_of_ble_eq_true rfl)⟩ (fun v g3 hp => ?_)
                  obtain ⟨rfl, hp1, hp2, hp3⟩ := hp
                  show gh_W l G _ X g3 _ _ [some (.ref (A 30)), some (.ref (A 1)), some (.int (nI fo)), some (.int (nI len)), some (.int (nI lim)), some (.int (nI p)), some (.ref q1), some (.int (nI s)), some (.ref q2), some (.int (nI (rnkL b (dws es)))), some (.ref x.1)] 204 []
                  have hlr := posN_le ((rnkL b (dws es) * 9 + p) * 9 + s) ws1
                  refine nxt g3 _ _ _ _ ⟨hp1, hp2, srtN_ins _ i3, by rw [insA_len hlr]; omega, fun y hy => ?_, ⟨b, hb2.M hp3 (by decide) (by decide)⟩, hi2.2.2.2.2.2.2.tr (hp3.wd (by decide))⟩ ?_
                  · rcases insA_mem hy with q | q
                    · exact i5 y q
                    · omega
                  · rw [show wyM es u1 u2 p s ((tx.drop fo).take len) = some ((rnkL b (dws es) * 9 + p) * 9 + s) by rw [wyM, if_pos ⟨hst, z3⟩, hud]; dsimp only; rw [hx]; exact if_pos ⟨hxb, z5, z6⟩]
                    exact (if_pos z2).symm
            · refine gh_callV (rest := []) [.int (nI (rnkL b (dws es))), .ref (A 31), .int (nI 0), .int (nI b.length)] hK (c_Dc_atW l G fx2.1 (j := rnkL b (dws es)) (by omega) hb2 (fr := 0) (len := b.length) (by omega)) Y_Dc_at V_Dc_at km_Sp_78 fx2.1.1 rfl rfl d_Sp_findWays_156 rfl rfl (Nat.le_of_ble_eq_true rfl) ⟨(Nat.le_of_ble_eq_true rfl), (Nat.le_of_ble_eq_true rfl)⟩ ⟨(Nat.le_of_ble_eq_true rfl), (Nat.le_of_ble_eq_true rfl)⟩ (fun v g' hp => ?_)
              rw [eb] at hp
              rw [hp.2.1 (fun x hx q => hex ⟨x, hx, q⟩), hp.2.2]
              show gh_W l G _ X g2 _ _ [some (.ref (A 30)), some (.ref (A 1)), some (.int (nI fo)), some (.int (nI len)), some (.int (nI lim)), some (.int (nI p)), some (.ref q1), some (.int (nI s)), some (.ref q2), some (.int (nI (rnkL b (dws es)))), o10] 159 [.null]
              refine gh_astoreN (lv' := [some (.ref (A 30)), some (.ref (A 1)), some (.int (nI fo)), some (.int (nI len)), some (.int (nI lim)), some (.int (nI p)), some (.ref q1), some (.int (nI s)), some (.ref q2), some (.int (nI (rnkL b (dws es)))), some (.null)]) hK d_Sp_findWays_159 (Nat.le_of_ble_eq_true rfl) rfl ?_
              refine gh_aloadN hK d_Sp_findWays_161 rfl ?_
              refine gh_ifnullN hK d_Sp_findWays_163 (tgt := 204) (by decide) ?_
              refine nxt g2 ws1 _ _ _ hi2 ?_
              rw [show wyM es u1 u2 p s ((tx.drop fo).take len) = none by
                rw [wyM, if_pos ⟨hst, z3⟩, hud]
                dsimp only
                cases hx : es[rnkL b (dws es)]? with
                | none => rfl
                | some x => exact if_neg (fun q => hex ⟨x, hx, q.1⟩), wyP_none]
  have outer : ∀ (m p : Nat) (g1 : GH) (ws1 : List Nat) (o6 o7 o8 o9 o10 : Option Value), p + m = us1.length + 1 → WyI G g g1 A ws1 → wyO es us1 us2 lim ((tx.drop fo).take len) m p ws1 = wyO es us1 us2 lim ((tx.drop fo).take len) (us1.length + 1) 0 [] → gh_W l G (rmk 5 0 0 110) X g1 0 0 [some (.ref (A 30)), some (.ref (A 1)), some (.int (nI fo)), some (.int (nI len)), some (.int (nI lim)), some (.int (nI p)), o6, o7, o8, o9, o10] 8 [] := by
    have fin : ∀ (g1 : GH) (ws1 : List Nat) (p : Nat) (o6 o7 o8 o9 o10 : Option Value), WyI G g g1 A ws1 → ws1 = wyO es us1 us2 lim ((tx.drop fo).take len) (us1.length + 1) 0 [] → gh_W l G (rmk 5 0 0 110) X g1 0 0 [some (.ref (A 30)), some (.ref (A 1)), some (.int (nI fo)), some (.int (nI len)), some (.int (nI lim)), some (.int (nI p)), o6, o7, o8, o9, o10] 216 [] := by
      intro g1 ws1 p o6 o7 o8 o9 o10 hi1 he
      have i1 : g1 (A 30) = some (30, .inr (8, [.ref (A 7), .ref (A 10), .ref (A 20), .ref (A 31), .ref (A 33), .ref (A 34), .ref (A 36), .int (nI ws1.length)])) := hi1.1
      refine gh_aload_n hK d_Sp_findWays_216 rfl ?_
      refine gh_get hK d_Sp_findWays_217 in_Sp rfl i1 7 (by decide) kf_Sp_47 rfl rfl ?_
      exact gh_iret hK hE d_Sp_findWays_220 (Nat.le_of_ble_eq_true rfl) (Nat.le_of_ble_eq_true rfl) ⟨by rw [← he], by rw [← he]; exact hi1⟩
    intro m
    induction m with
    | zero =>
      intro p g1 ws1 o6 o7 o8 o9 o10 hp hi1 hR
      have fx := hfx.M hi1.2.2.2.2.2.2 (by decide)
      have i1 : g1 (A 30) = some (30, .inr (8, [.ref (A 7), .ref (A 10), .ref (A 20), .ref (A 31), .ref (A 33), .ref (A 34), .ref (A 36), .int (nI ws1.length)])) := hi1.1
      refine gh_iload hK d_Sp_findWays_8 rfl ?_
      refine gh_aload_n hK d_Sp_findWays_10 rfl ?_
      refine gh_get hK d_Sp_findWays_11 in_Sp rfl i1 1 (by decide) kf_Sp_15 rfl rfl ?_
      refine gh_callV (rest := [.int (nI p)]) [] hK (c_Rs_count l G fx.2.1) Y_Rs_count V_Rs_count km_Sp_51 fx.2.1.1 rfl rfl d_Sp_findWays_14 rfl rfl (Nat.le_of_ble_eq_true rfl) ⟨(Nat.le_of_ble_eq_true rfl), (Nat.le_of_ble_eq_true rfl)⟩ ⟨(Nat.le_of_ble_eq_true rfl), (Nat.le_of_ble_eq_true rfl)⟩ (fun v g' hp => ?_)
      rw [hp.1, hp.2]
      show gh_W l G _ X g1 _ _ [some (.ref (A 30)), some (.ref (A 1)), some (.int (nI fo)), some (.int (nI len)), some (.int (nI lim)), some (.int (nI p)), o6, o7, o8, o9, o10] 17 [.int (nI us1.length), .int (nI p)]
      refine gh_icmp_gtN hK d_Sp_findWays_17 (tgt := 216) (by decide) (by omega) (by omega) (fun z => ?_) (fun z => absurd z (by omega))
      exact fin g1 ws1 p o6 o7 o8 o9 o10 hi1 hR
    | succ m ih =>
      intro p g1 ws1 o6 o7 o8 o9 o10 hp hi1 hR
      have fx := hfx.M hi1.2.2.2.2.2.2 (by decide)
      have hwl1 := hi1.2.2.2.1
      have i1 : g1 (A 30) = some (30, .inr (8, [.ref (A 7), .ref (A 10), .ref (A 20), .ref (A 31), .ref (A 33), .ref (A 34), .ref (A 36), .int (nI ws1.length)])) := hi1.1
      refine gh_iload hK d_Sp_findWays_8 rfl ?_
      refine gh_aload_n hK d_Sp_findWays_10 rfl ?_
      refine gh_get hK d_Sp_findWays_11 in_Sp rfl i1 1 (by decide) kf_Sp_15 rfl rfl ?_
      refine gh_callV (rest := [.int (nI p)]) [] hK (c_Rs_count l G fx.2.1) Y_Rs_count V_Rs_count km_Sp_51 fx.2.1.1 rfl rfl d_Sp_findWays_14 rfl rfl (Nat.le_of_ble_eq_true rfl) ⟨(Nat.le_of_ble_eq_true rfl), (Nat.le_of_ble_eq_true rfl)⟩ ⟨(Nat.le_of_ble_eq_true rfl), (Nat.le_of_ble_eq_true rfl)⟩ (fun v g' hp => ?_)
      rw [hp.1, hp.2]
      show gh_W l G _ X g1 _ _ [some (.ref (A 30)), some (.ref (A 1)), some (.int (nI fo)), some (.int (nI len)), some (.int (nI lim)), some (.int (nI p)), o6, o7, o8, o9, o10] 17 [.int (nI us1.length), .int (nI p)]
      refine gh_icmp_gtN hK d_Sp_findWays_17 (tgt := 216) (by decide) (by omega) (by omega) (fun z => absurd z (by omega)) (fun z => ?_)
      refine gh_aload_n hK d_Sp_findWays_20 rfl ?_
      refine gh_get hK d_Sp_findWays_21 in_Sp rfl i1 7 (by decide) kf_Sp_47 rfl rfl ?_
      refine gh_iload hK d_Sp_findWays_24 rfl ?_
      refine gh_icmp_geN hK d_Sp_findWays_26 (tgt := 216) (by decide) (by omega) (by omega) (fun z2 => ?_) (fun z2 => ?_)
      · exact fin g1 ws1 p o6 o7 o8 o9 o10 hi1 (by rw [← hR, wyO_full z2])
      · rw [wyO] at hR
        have nxt : ∀ (g2 : GH) (ws2 : List Nat) (o6 o7 o8 o9 o10 : Option Value), WyI G g g2 A ws2 → ws2 = wyS es (rlN us1 p) us2 p lim ((tx.drop fo).take len) (us2.length + 1) 0 ws1 → gh_W l G (rmk 5 0 0 110) X g2 0 0 [some (.ref (A 30)), some (.ref (A 1)), some (.int (nI fo)), some (.int (nI len)), some (.int (nI lim)), some (.int (nI p)), o6, o7, o8, o9, o10] 210 [] := by
          intro g2 ws2 o6 o7 o8 o9 o10 hi2 he
          refine gh_incN (lv' := [some (.ref (A 30)), some (.ref (A 1)), some (.int (nI fo)), some (.int (nI len)), some (.int (nI lim)), some (.int (nI (p + 1))), o6, o7, o8, o9, o10]) hK d_Sp_findWays_210 rfl rfl ?_
          refine gh_goto (tgt := 8) hK d_Sp_findWays_213 (by decide) ?_
          exact ih (p + 1) g2 ws2 o6 o7 o8 o9 o10 (by omega) hi2 (by rw [he]; exact hR)
        refine gh_aload_n hK d_Sp_findWays_29 rfl ?_
        refine gh_get hK d_Sp_findWays_30 in_Sp rfl i1 1 (by decide) kf_Sp_15 rfl rfl ?_
        refine gh_iload hK d_Sp_findWays_33 rfl ?_
        have hq1g := hfx.2.1.x (Or.inl rfl) (j := p) (by omega)
        generalize hQ1 : rlA (A 13) us1 p = q1 at hq1g
        have hq1 := hq1g.M hi1.2.2.2.2.2.2 (by decide)
        refine gh_callV (rest := []) [.int (nI p)] hK (c_Rs_at l G fx.2.1 (Or.inl rfl) (j := p) (by omega)) Y_Rs_at V_Rs_at km_Sp_57 fx.2.1.1 rfl rfl d_Sp_findWays_35 rfl rfl (Nat.le_of_ble_eq_true rfl) ⟨(Nat.le_of_ble_eq_true rfl), (Nat.le_of_ble_eq_true rfl)⟩ ⟨(Nat.le_of_ble_eq_true rfl), (Nat.le_of_ble_eq_true rfl)⟩ (fun v g' hp => ?_)
        rw [hp.1, hp.2, hQ1]
        show gh_W l G _ X g1 _ _ [some (.ref (A 30)), some (.ref (A 1)), some (.int (nI fo)), some (.int (nI len)), some (.int (nI lim)), some (.int (nI p)), o6, o7, o8, o9, o10] 38 [.ref q1]
        obtain ⟨vv1, vv2, vv3, nn1, nn2, nn3, ru1⟩ := id hq1
        obtain ⟨y1, y2, y3, y4, y5, y6, rb1, -⟩ := id ru1
        refine gh_astore (lv' := [some (.ref (A 30)), some (.ref (A 1)), some (.int (nI fo)), some (.int (nI len)), some (.int (nI lim)), some (.int (nI p)), some (.ref q1), o7, o8, o9, o10]) hK d_Sp_findWays_38 (Nat.le_of_ble_eq_true rfl) rfl ?_
        refine gh_aload hK d_Sp_findWays_40 rfl ?_
        refine gh_aload_n hK d_Sp_findWays_42 rfl ?_
        refine gh_iload_n hK d_Sp_findWays_43 rfl ?_
        refine gh_iload_n hK d_Sp_findWays_44 rfl ?_
        refine gh_callV (rest := []) [.ref (A 1), .int (nI fo), .int (nI len)] hK (c_Ru_addStands l G ru1 fx.2.2.2 hf) Y_Ru_addStands V_Ru_addStands km_Sp_61 rb1 rfl rfl d_Sp_findWays_45 rfl rfl (Nat.le_of_ble_eq_true rfl) ⟨(Nat.le_of_ble_eq_true rfl), (Nat.le_of_ble_eq_true rfl)⟩ ⟨(Nat.le_of_ble_eq_true rfl), (Nat.le_of_ble_eq_true rfl)⟩ (fun v g' hp => ?_)
        rw [hp.1, hp.2]
        show gh_W l G _ X g1 _ _ [some (.ref (A 30)), some (.ref (A 1)), some (.int (nI fo)), some (.int (nI len)), some (.int (nI lim)), some (.int (nI p)), some (.ref q1), o7, o8, o9, o10] 48 [.int (nI (bn (stO true (rlN us1 p).2.2.1 ((tx.drop fo).take len))))]
        refine gh_if_neB hK d_Sp_findWays_48 (tgt := 54) (by decide) (fun z3 => ?_) (fun z3 => ?_)
        · refine gh_iconst (v := nI 0) hK d_Sp_findWays_54 (by decide) ?_
          refine gh_istore (lv' := [some (.ref (A 30)), some (.ref (A 1)), some (.int (nI fo)), some (.int (nI len)), some (.int (nI lim)), some (.int (nI p)), some (.ref q1), some (.int (nI 0)), o8, o9, o10]) hK d_Sp_findWays_55 (Nat.le_of_ble_eq_true rfl) rfl ?_
          exact inner _ p q1 _ rfl (by omega) z3 (fun g2 ws2 o7 o8 o9 o10 hi2 he => nxt g2 ws2 _ o7 o8 o9 o10 hi2 he) (us2.length + 1) 0 g1 ws1 o8 o9 o10 (by omega) hi1 hq1g rfl
        · refine gh_goto (tgt := 210) hK d_Sp_findWays_51 (by decide) ?_
          exact nxt g1 ws1 _ o7 o8 o9 o10 hi1 (by rw [wyS_no z3])
  obtain ⟨i1, i2, i3, i4, i5, ⟨bs, i6⟩, i7⟩ := id hi
  have n0 := i1.ne i2
  have i1 : g (A 30) = some (30, .inr (8, [.ref (A 7), .ref (A 10), .ref (A 20), .ref (A 31), .ref (A 33), .ref (A 34), .ref (A 36), .int (nI ws.length)])) := i1
  obtain ⟨fw, w1, w2⟩ := id i2
  refine gh_aload_n hK d_Sp_findWays_0 rfl ?_
  refine gh_iconst (v := nI 0) hK d_Sp_findWays_1 (by decide) ?_
  refine gh_put (fs' := [.ref (A 7), .ref (A 10), .ref (A 20), .ref (A 31), .ref (A 33), .ref (A 34), .ref (A 36), .int (nI 0)]) hK d_Sp_findWays_2 in_Sp t_Sp ty_Sp nm_Sp rfl i1 7 (by decide) kf_Sp_47 rfl rfl rfl rfl (Nat.le_of_ble_eq_true rfl) rfl ?_
  have hM0 : gh_M [30, 31, 32, 33] g (gh_up g (A 30) 30 (.inr (8, [.ref (A 7), .ref (A 10), .ref (A 20), .ref (A 31), .ref (A 33), .ref (A 34), .ref (A 36), .int (nI 0)]))) := gh_M.up i1 (by decide)
  have hM1 : gh_M [30] g (gh_up g (A 30) 30 (.inr (8, [.ref (A 7), .ref (A 10), .ref (A 20), .ref (A 31), .ref (A 33), .ref (A 34), .ref (A 36), .int (nI 0)]))) := gh_M.up i1 (by decide)
  refine gh_iconst (v := nI 0) hK d_Sp_findWays_5 (by decide) ?_
  refine gh_istore (lv' := [some (.ref (A 30)), some (.ref (A 1)), some (.int (nI fo)), some (.int (nI len)), some (.int (nI lim)), some (.int (nI 0)), none, none, none, none, none]) hK d_Sp_findWays_6 (Nat.le_of_ble_eq_true rfl) rfl ?_
  exact outer (us1.length + 1) 0 _ [] none none none none none (by omega) ⟨gh_us, ⟨fw, by rw [gh_un n0.symm]; exact w1, fun i x hx => by simp at hx⟩, trivial, Nat.zero_le _, fun y hy => absurd hy List.not_mem_nil, ⟨bs, i6.M hM1 (by decide) (by decide)⟩, hM0⟩ rfl
end
section
/-! the forms of an entry -/
def fmF (u1 u2 : RuR) (w : List Nat) : Option (List Nat) := if u1.2.1.length + u2.2.1.length < w.length then some (u1.2.2.1 ++ (w.drop u1.2.1.length).take (w.length - u1.2.1.length - u2.2.1.length) ++ u2.2.2.1) else none
def addW (f : List Nat) (l : List (List Nat)) : List (List Nat) := if f ∈ l then l else putL f l
theorem addW_srt {f : List Nat} {l : List (List Nat)} (h : srtL l) : srtL (addW f l) := by
  unfold addW
  split
  · exact h
  · next hn => exact srtL_put f h hn
def FmI (G : GG) (g : GH) (A : Nat → Nat) (fx : List Nat) (fp : List (Nat × Nat)) : Prop := Lt G g (A 34) 34 (A 35) 35 2268 fx ∧ Wl G g (A 36) 36 (A 37) 37 (A 38) 38 (A 34) 81 fp ∧ (∀ p, p ∈ fp → p.1 + p.2 ≤ fx.length) ∧ srtL (wls fx fp)
theorem FmI.M {G : GG} {g g' : GH} {A : Nat → Nat} {fx : List Nat} {fp : List (Nat × Nat)} {S : List Nat} (h : FmI G g A fx fp) (hM : gh_M S g g') (h1 : ∀ t, t ∈ [34, 35, 36, 37, 38] → t ∉ S) : FmI G g' A fx fp := ⟨h.1.M hM (h1 _ (by decide)) (h1 _ (by decide)), h.2.1.M hM (h1 _ (by decide)) (h1 _ (by decide)) (h1 _ (by decide)), h.2.2⟩
theorem wls_app {fx f : List Nat} {fp : List (Nat × Nat)} (h : ∀ p, p ∈ fp → p.1 + p.2 ≤ fx.length) : wls (fx ++ f) fp = wls fx fp := by
  unfold wls
  apply List.map_congr_left
  intro p hp
  have := h p hp
  rw [List.drop_append_of_le_length (by omega), List.take_append_of_le_length (by rw [List.length_drop]; omega)]
theorem slice_end (fx f : List Nat) : ((fx ++ f).drop fx.length).take f.length = f := by rw [List.drop_left, List.take_length]
/-- the parts of rules are short -/
def RuB (u : RuR) : Prop := u.2.1.length ≤ 6 ∧ u.2.2.1.length ≤ 6 ∧ u.2.2.2.length ≤ 6
theorem rlN_B {us : List (Nat × RuR)} (h : ∀ x, x ∈ us → RuB x.2) (j : Nat) : RuB (rlN us j) := by
  unfold rlN
  split
  · exact ⟨by decide, by decide, by decide⟩
  · cases hx : us[j - 1]? with
    | none => exact ⟨by decide, by decide, by decide⟩
    | some x => exact h x (List.mem_of_getElem? hx)
set_option maxRecDepth 20000 in
set_option maxHeartbeats 4000000 in
theorem c_Sp_putForm (l : Launch) (G : GG) {g : GH} {A : Nat → Nat} {n q1 q2 ea fl : Nat} {u1 u2 : RuR} {w fx : List Nat} {fp : List (Nat × Nat)} (h : SpO g A n) (hm : FmI G g A fx fp) (hu1 : RuX G g q1 true u1) (hu2 : RuX G g q2 false u2) (he : En G g ea w fl) (hwl : w.length ≤ 16) (hB1 : RuB u1) (hB2 : RuB u2) (hc1 : fx.length + 28 ≤ 2268) (hc2 : fp.length < 81) : gMet l G y_Sp_putForm b_Sp_putForm 6 none (rmk 2 0 0 91) [.ref (A 30), .ref ea, .ref q1, .ref q2] g (fun v g' => v = none ∧ (∃ fx' fp', FmI G g' A fx' fp' ∧ fx'.length ≤ fx.length + 28 ∧ fp'.length ≤ fp.length + 1 ∧ wls fx' fp' = (match fmF u1 u2 w with | some f => addW f (wls fx fp) | none => wls fx fp)) ∧ gh_M [34, 35, 36, 37, 38] g g') := by
  refine gMet.of [some (.ref (A 30)), some (.ref ea), some (.ref q1), some (.ref q2), none, none] (by decide +kernel) rfl (Nat.le_of_ble_eq_true rfl) rfl (fun X hK hI hE => ?_)
  obtain ⟨t1, t2, t3, m1, m2, m3, sa, sb, aa, ab, ca, cb, k1, k2, k3, k4⟩ := hu1
  obtain ⟨r1, r2, r3, l1, l2, l3, sa2, sb2, aa2, ab2, ca2, cb2, j1, j2, j3, j4⟩ := hu2
  obtain ⟨wa, wb, e1, e2⟩ := he
  obtain ⟨fb, fW, fv, fsr⟩ := id hm
  obtain ⟨p1, p2⟩ := k3.ap fb (by simp at m2 ⊢; omega) (by simp at m3 ⊢; omega)
  obtain ⟨p3, p4⟩ := j3.ap fb (by simp at l2 ⊢; omega) (by simp at l3 ⊢; omega)
  obtain ⟨p5, p6⟩ := e2.ap fb (by decide) (by decide)
  obtain ⟨fl1, S, A1, Cc⟩ := u1
  obtain ⟨fl2, S2, A2, C2⟩ := u2
  obtain ⟨q5, q6, q7⟩ := hB1
  obtain ⟨q8, q9, q10⟩ := hB2
  dsimp only at k1 k2 k3 j1 j2 j3 q5 q6 q7 q8 q9 q10
  have h0 : g (A 30) = some (30, .inr (8, [.ref (A 7), .ref (A 10), .ref (A 20), .ref (A 31), .ref (A 33), .ref (A 34), .ref (A 36), .int (nI n)])) := h
  refine gh_aload_n hK d_Sp_putForm_0 rfl ?_
  refine gh_get hK d_Sp_putForm_1 in_En rfl e1 0 (by decide) kf_Sp_103 rfl rfl ?_
  refine gh_callV (rest := []) [] hK (c_Lt_count l G e2) Y_Lt_count V_Lt_count km_Sp_71 e2.ob rfl rfl d_Sp_putForm_4 rfl rfl (Nat.le_of_ble_eq_true rfl) ⟨(Nat.le_of_ble_eq_true rfl), (Nat.le_of_ble_eq_true rfl)⟩ ⟨(Nat.le_of_ble_eq_true rfl), (Nat.le_of_ble_eq_true rfl)⟩ (fun v g' hp => ?_)
  rw [hp.1, hp.2]
  show gh_W l G _ X g _ _ [some (.ref (A 30)), some (.ref ea), some (.ref q1), some (.ref q2), none, none] 7 [.int (nI w.length)]
  refine gh_aload_n hK d_Sp_putForm_7 rfl ?_
  refine gh_get hK d_Sp_putForm_8 in_Ru rfl k1 2 (by decide) kf_Sp_108 rfl rfl ?_
  refine gh_callV (rest := [.int (nI w.length)]) [] hK (c_Lt_count l G k2) Y_Lt_count V_Lt_count km_Sp_71 k2.ob rfl rfl d_Sp_putForm_11 rfl rfl (Nat.le_of_ble_eq_true rfl) ⟨(Nat.le_of_ble_eq_true rfl), (Nat.le_of_ble_eq_true rfl)⟩ ⟨(Nat.le_of_ble_eq_true rfl), (Nat.le_of_ble_eq_true rfl)⟩ (fun v g' hp => ?_)
  rw [hp.1, hp.2]
  show gh_W l G _ X g _ _ [some (.ref (A 30)), some (.ref ea), some (.ref q1), some (.ref q2), none, none] 14 [.int (nI S.length), .int (nI w.length)]
  refine gh_isub hK d_Sp_putForm_14 ?_
  refine gh_aload_n hK d_Sp_putForm_15 rfl ?_
  refine gh_get hK d_Sp_putForm_16 in_Ru rfl j1 2 (by decide) kf_Sp_108 rfl rfl ?_
  refine gh_callV (rest := [.int (nI w.length - nI S.length)]) [] hK (c_Lt_count l G j2) Y_Lt_count V_Lt_count km_Sp_71 j2.ob rfl rfl d_Sp_putForm_19 rfl rfl (Nat.le_of_ble_eq_true rfl) ⟨(Nat.le_of_ble_eq_true rfl), (Nat.le_of_ble_eq_true rfl)⟩ ⟨(Nat.le_of_ble_eq_true rfl), (Nat.le_of_ble_eq_true rfl)⟩ (fun v g' hp => ?_)
  rw [hp.1, hp.2]
  show gh_W l G _ X g _ _ [some (.ref (A 30)), some (.ref ea), some (.ref q1), some (.ref q2), none, none] 22 [.int (nI S2.length), .int (nI w.length - nI S.length)]
  refine gh_isub hK d_Sp_putForm_22 ?_
  by_cases hl : S.length + S2.length < w.length
  · rw [sub3_pos hl]
    refine gh_istore (lv' := [some (.ref (A 30)), some (.ref ea), some (.ref q1), some (.ref q2), some (.int (nI (w.length - S.length - S2.length))), none]) hK d_Sp_putForm_23 (Nat.le_of_ble_eq_true rfl) rfl ?_
    refine gh_iload hK d_Sp_putForm_25 rfl ?_
    refine gh_iconst (v := nI 1) hK d_Sp_putForm_27 (by decide) ?_
    refine gh_icmp_geN hK d_Sp_putForm_28 (tgt := 32) (by decide) (by omega) (by decide) (fun z => ?_) (fun z => absurd z (by omega))
    refine gh_aload_n hK d_Sp_putForm_32 rfl ?_
    refine gh_get hK d_Sp_putForm_33 in_Sp rfl h0 5 (by decide) kf_Sp_35 rfl rfl ?_
    refine gh_callV (rest := []) [] hK (c_Lt_count l G fb) Y_Lt_count V_Lt_count km_Sp_71 fb.ob rfl rfl d_Sp_putForm_36 rfl rfl (Nat.le_of_ble_eq_true rfl) ⟨(Nat.le_of_ble_eq_true rfl), (Nat.le_of_ble_eq_true rfl)⟩ ⟨(Nat.le_of_ble_eq_true rfl), (Nat.le_of_ble_eq_true rfl)⟩ (fun v g' hp => ?_)
    rw [hp.1, hp.2]
    show gh_W l G _ X g _ _ [some (.ref (A 30)), some (.ref ea), some (.ref q1), some (.ref q2), some (.int (nI (w.length - S.length - S2.length))), none] 39 [.int (nI fx.length)]
    refine gh_istore (lv' := [some (.ref (A 30)), some (.ref ea), some (.ref q1), some (.ref q2), some (.int (nI (w.length - S.length - S2.length))), some (.int (nI fx.length))]) hK d_Sp_putForm_39 (Nat.le_of_ble_eq_true rfl) rfl ?_
    refine gh_aload_n hK d_Sp_putForm_41 rfl ?_
    refine gh_get hK d_Sp_putForm_42 in_Sp rfl h0 5 (by decide) kf_Sp_35 rfl rfl ?_
    refine gh_aload_n hK d_Sp_putForm_45 rfl ?_
    refine gh_get hK d_Sp_putForm_46 in_Ru rfl k1 3 (by decide) kf_Sp_111 rfl rfl ?_
    refine gh_iconst (v := nI 0) hK d_Sp_putForm_49 (by decide) ?_
    refine gh_aload_n hK d_Sp_putForm_50 rfl ?_
    refine gh_get hK d_Sp_putForm_51 in_Ru rfl k1 3 (by decide) kf_Sp_111 rfl rfl ?_
    refine gh_callV (rest := [.int (nI 0), .ref aa, .ref (A 34)]) [] hK (c_Lt_count l G k3) Y_Lt_count V_Lt_count km_Sp_71 k3.ob rfl rfl d_Sp_putForm_54 rfl rfl (Nat.le_of_ble_eq_true rfl) ⟨(Nat.le_of_ble_eq_true rfl), (Nat.le_of_ble_eq_true rfl)⟩ ⟨(Nat.le_of_ble_eq_true rfl), (Nat.le_of_ble_eq_true rfl)⟩ (fun v g' hp => ?_)
    rw [hp.1, hp.2]
    show gh_W l G _ X g _ _ [some (.ref (A 30)), some (.ref ea), some (.ref q1), some (.ref q2), some (.int (nI (w.length - S.length - S2.length))), some (.int (nI fx.length))] 57 [.int (nI A1.length), .int (nI 0), .ref aa, .ref (A 34)]
    refine gh_callV (rest := []) [.ref aa, .int (nI 0), .int (nI A1.length)] hK (c_Lt_appendAll l G fb k3 p1 p2 (fr := 0) (len := A1.length) (by omega) (by omega)) Y_Lt_appendAll V_Lt_appendAll km_Sp_114 fb.ob rfl rfl d_Sp_putForm_57 rfl rfl (Nat.le_of_ble_eq_true rfl) ⟨(Nat.le_of_ble_eq_true rfl), (Nat.le_of_ble_eq_true rfl)⟩ ⟨(Nat.le_of_ble_eq_true rfl), (Nat.le_of_ble_eq_true rfl)⟩ (fun v g1 hp => ?_)
    obtain ⟨rfl, hb1, hN1⟩ := hp
    show gh_W l G _ X g1 _ _ [some (.ref (A 30)), some (.ref ea), some (.ref q1), some (.ref q2), some (.int (nI (w.length - S.length - S2.length))), some (.int (nI fx.length))] 60 []
    rw [List.drop_zero, List.take_length] at hb1
    have Mg1 : gh_M [34, 35] g g1 := hN1.M fun a ha => by
      obtain ⟨ff, ⟨x1, x2, -⟩, -⟩ := id fb
      rcases List.mem_cons.mp ha with rfl | ha
      · exact ⟨_, _, x1, by decide⟩
      · rw [List.mem_singleton.mp ha]; exact ⟨_, _, x2, by decide⟩
    have hg1 : g1 (A 30) = _ := Mg1 _ _ _ h0 (by decide)
    have kg1 : g1 q1 = _ := Mg1 _ _ _ k1 (by simp at m1 ⊢; omega)
    have jg1 : g1 q2 = _ := Mg1 _ _ _ j1 (by simp at l1 ⊢; omega)
    have ig1 : g1 ea = _ := Mg1 _ _ _ e1 (by decide)
    have ag1 := k3.M Mg1 (by simp at m2 ⊢; omega) (by simp at m3 ⊢; omega)
    have sg1 := k2.M Mg1 (by simp at m2 ⊢; omega) (by simp at m3 ⊢; omega)
    have bg1 := j3.M Mg1 (by simp at l2 ⊢; omega) (by simp at l3 ⊢; omega)
    have wg1 := e2.M Mg1 (by decide) (by decide)
    refine gh_aload_n hK d_Sp_putForm_60 rfl ?_
    refine gh_get hK d_Sp_putForm_61 in_Sp rfl hg1 5 (by decide) kf_Sp_35 rfl rfl ?_
    refine gh_aload_n hK d_Sp_putForm_64 rfl ?_
    refine gh_get hK d_Sp_putForm_65 in_En rfl ig1 0 (by decide) kf_Sp_103 rfl rfl ?_
    refine gh_aload_n hK d_Sp_putForm_68 rfl ?_
    refine gh_get hK d_Sp_putForm_69 in_Ru rfl kg1 2 (by decide) kf_Sp_108 rfl rfl ?_
    refine gh_callV (rest := [.ref wa, .ref (A 34)]) [] hK (c_Lt_count l G sg1) Y_Lt_count V_Lt_count km_Sp_71 sg1.ob rfl rfl d_Sp_putForm_72 rfl rfl (Nat.le_of_ble_eq_true rfl) ⟨(Nat.le_of_ble_eq_true rfl), (Nat.le_of_ble_eq_true rfl)⟩ ⟨(Nat.le_of_ble_eq_true rfl), (Nat.le_of_ble_eq_true rfl)⟩ (fun v g' hp => ?_)
    rw [hp.1, hp.2]
    show gh_W l G _ X g1 _ _ [some (.ref (A 30)), some (.ref ea), some (.ref q1), some (.ref q2), some (.int (nI (w.length - S.length - S2.length))), some (.int (nI fx.length))] 75 [.int (nI S.length), .ref wa, .ref (A 34)]
    refine gh_iload hK d_Sp_putForm_75 rfl ?_
    refine gh_callV (rest := []) [.ref wa, .int (nI S.length), .int (nI (w.length - S.length - S2.length))] hK (c_Lt_appendAll l G hb1 wg1 p5 p6 (fr := S.length) (len := w.length - S.length - S2.length) (by omega) (by rw [List.length_append]; omega)) Y_Lt_appendAll V_Lt_appendAll km_Sp_114 hb1.ob rfl rfl d_Sp_putForm_77 rfl rfl (Nat.le_of_ble_eq_true rfl) ⟨(Nat.le_of_ble_eq_true rfl), (Nat.le_of_ble_eq_true rfl)⟩ ⟨(Nat.le_of_ble_eq_true rfl), (Nat.le_of_ble_eq_true rfl)⟩ (fun v g2 hp => ?_)
    obtain ⟨rfl, hb2, hN2⟩ := hp
    show gh_W l G _ X g2 _ _ [some (.ref (A 30)), some (.ref ea), some (.ref q1), some (.ref q2), some (.int (nI (w.length - S.length - S2.length))), some (.int (nI fx.length))] 80 []
    have hN2 := hN1.tr hN2
    have Mg2 : gh_M [34, 35] g g2 := hN2.M fun a ha => by
      obtain ⟨ff, ⟨x1, x2, -⟩, -⟩ := id fb
      rcases List.mem_cons.mp ha with rfl | ha
      · exact ⟨_, _, x1, by decide⟩
      · rw [List.mem_singleton.mp ha]; exact ⟨_, _, x2, by decide⟩
    have hg2 : g2 (A 30) = _ := Mg2 _ _ _ h0 (by decide)
    have kg2 : g2 q1 = _ := Mg2 _ _ _ k1 (by simp at m1 ⊢; omega)
    have jg2 : g2 q2 = _ := Mg2 _ _ _ j1 (by simp at l1 ⊢; omega)
    have ig2 : g2 ea = _ := Mg2 _ _ _ e1 (by decide)
    have ag2 := k3.M Mg2 (by simp at m2 ⊢; omega) (by simp at m3 ⊢; omega)
    have sg2 := k2.M Mg2 (by simp at m2 ⊢; omega) (by simp at m3 ⊢; omega)
    have bg2 := j3.M Mg2 (by simp at l2 ⊢; omega) (by simp at l3 ⊢; omega)
    have wg2 := e2.M Mg2 (by decide) (by decide)
    refine gh_aload_n hK d_Sp_putForm_80 rfl ?_
    refine gh_get hK d_Sp_putForm_81 in_Sp rfl hg2 5 (by decide) kf_Sp_35 rfl rfl ?_
    refine gh_aload_n hK d_Sp_putForm_84 rfl ?_
    refine gh_get hK d_Sp_putForm_85 in_Ru rfl jg2 3 (by decide) kf_Sp_111 rfl rfl ?_
    refine gh_iconst (v := nI 0) hK d_Sp_putForm_88 (by decide) ?_
    refine gh_aload_n hK d_Sp_putForm_89 rfl ?_
    refine gh_get hK d_Sp_putForm_90 in_Ru rfl jg2 3 (by decide) kf_Sp_111 rfl rfl ?_
    refine gh_callV (rest := [.int (nI 0), .ref aa2, .ref (A 34)]) [] hK (c_Lt_count l G bg2) Y_Lt_count V_Lt_count km_Sp_71 bg2.ob rfl rfl d_Sp_putForm_93 rfl rfl (Nat.le_of_ble_eq_true rfl) ⟨(Nat.le_of_ble_eq_true rfl), (Nat.le_of_ble_eq_true rfl)⟩ ⟨(Nat.le_of_ble_eq_true rfl), (Nat.le_of_ble_eq_true rfl)⟩ (fun v g' hp => ?_)
    rw [hp.1, hp.2]
    show gh_W l G _ X g2 _ _ [some (.ref (A 30)), some (.ref ea), some (.ref q1), some (.ref q2), some (.int (nI (w.length - S.length - S2.length))), some (.int (nI fx.length))] 96 [.int (nI A2.length), .int (nI 0), .ref aa2, .ref (A 34)]
    refine gh_callV (rest := []) [.ref aa2, .int (nI 0), .int (nI A2.length)] hK (c_Lt_appendAll l G hb2 bg2 p3 p4 (fr := 0) (len := A2.length) (by omega) (by rw [List.length_append, List.length_append, slice_len (by omega)]; omega)) Y_Lt_appendAll V_Lt_appendAll km_Sp_114 hb2.ob rfl rfl d_Sp_putForm_96 rfl rfl (Nat.le_of_ble_eq_true rfl) ⟨(Nat.le_of_ble_eq_true rfl), (Nat.le_of_ble_eq_true rfl)⟩ ⟨(Nat.le_of_ble_eq_true rfl), (Nat.le_of_ble_eq_true rfl)⟩ (fun v g3 hp => ?_)
    obtain ⟨rfl, hb3, hN3⟩ := hp
    show gh_W l G _ X g3 _ _ [some (.ref (A 30)), some (.ref ea), some (.ref q1), some (.ref q2), some (.int (nI (w.length - S.length - S2.length))), some (.int (nI fx.length))] 99 []
    rw [List.drop_zero, List.take_length] at hb3
    have hN3 := hN2.tr hN3
    have Mg3 : gh_M [34, 35] g g3 := hN3.M fun a ha => by
      obtain ⟨ff, ⟨x1, x2, -⟩, -⟩ := id fb
      rcases List.mem_cons.mp ha with rfl | ha
      · exact ⟨_, _, x1, by decide⟩
      · rw [List.mem_singleton.mp ha]; exact ⟨_, _, x2, by decide⟩
    have hg3 : g3 (A 30) = _ := Mg3 _ _ _ h0 (by decide)
    have kg3 : g3 q1 = _ := Mg3 _ _ _ k1 (by simp at m1 ⊢; omega)
    have jg3 : g3 q2 = _ := Mg3 _ _ _ j1 (by simp at l1 ⊢; omega)
    have ig3 : g3 ea = _ := Mg3 _ _ _ e1 (by decide)
    have ag3 := k3.M Mg3 (by simp at m2 ⊢; omega) (by simp at m3 ⊢; omega)
    have sg3 := k2.M Mg3 (by simp at m2 ⊢; omega) (by simp at m3 ⊢; omega)
    have bg3 := j3.M Mg3 (by simp at l2 ⊢; omega) (by simp at l3 ⊢; omega)
    have wg3 := e2.M Mg3 (by decide) (by decide)
    have ef : fmF (fl1, S, A1, Cc) (fl2, S2, A2, C2) w = some (A1 ++ (w.drop S.length).take (w.length - S.length - S2.length) ++ A2) := if_pos hl
    have elen : (A1 ++ (w.drop S.length).take (w.length - S.length - S2.length) ++ A2).length ≤ 28 := by rw [List.length_append, List.length_append, slice_len (by omega)]; omega
    rw [List.append_assoc, List.append_assoc, ← List.append_assoc A1] at hb3
    generalize A1 ++ (w.drop S.length).take (w.length - S.length - S2.length) ++ A2 = f at ef elen hb3
    have hW3 := fW.M Mg3 (by decide) (by decide) (by decide)
    have ewl : wls (fx ++ f) fp = wls fx fp := wls_app fv
    refine gh_aload_n hK d_Sp_putForm_99 rfl ?_
    refine gh_get hK d_Sp_putForm_100 in_Sp rfl hg3 6 (by decide) kf_Sp_43 rfl rfl ?_
    refine gh_iload hK d_Sp_putForm_103 rfl ?_
    refine gh_aload_n hK d_Sp_putForm_105 rfl ?_
    refine gh_get hK d_Sp_putForm_106 in_Sp rfl hg3 5 (by decide) kf_Sp_35 rfl rfl ?_
    refine gh_callV (rest := [.int (nI fx.length), .ref (A 36)]) [] hK (c_Lt_count l G hb3) Y_Lt_count V_Lt_count km_Sp_71 hb3.ob rfl rfl d_Sp_putForm_109 rfl rfl (Nat.le_of_ble_eq_true rfl) ⟨(Nat.le_of_ble_eq_true rfl), (Nat.le_of_ble_eq_true rfl)⟩ ⟨(Nat.le_of_ble_eq_true rfl), (Nat.le_of_ble_eq_true rfl)⟩ (fun v g' hp => ?_)
    rw [hp.1, hp.2]
    show gh_W l G _ X g3 _ _ [some (.ref (A 30)), some (.ref ea), some (.ref q1), some (.ref q2), some (.int (nI (w.length - S.length - S2.length))), some (.int (nI fx.length))] 112 [.int (nI ((fx ++ f).length)), .int (nI fx.length), .ref (A 36)]
    rw [List.length_append]
    refine gh_iload hK d_Sp_putForm_112 rfl ?_
    refine gh_subN hK d_Sp_putForm_114 (by omega) ?_
    rw [Nat.add_sub_cancel_left]
    refine gh_callV (rest := []) [.int (nI fx.length), .int (nI f.length)] hK (c_Wl_put l G hW3 (by decide) hb3 (fun p hp => by have := fv p hp; rw [List.length_append]; omega) (fr := fx.length) (len := f.length) (by rw [List.length_append]; omega) (by rw [ewl]; exact fsr) hc2) Y_Wl_put V_Wl_put km_Sp_118 hW3.ob rfl rfl d_Sp_putForm_115 rfl rfl (Nat.le_of_ble_eq_true rfl) ⟨(Nat.le_of_ble_eq_true rfl), (Nat.le_of_ble_eq_true rfl)⟩ ⟨(Nat.le_of_ble_eq_true rfl), (Nat.le_of_ble_eq_true rfl)⟩ (fun v g4 hp => ?_)
    obtain ⟨rfl, hp1, hpN⟩ := hp
    show gh_W l G _ X g4 _ _ [some (.ref (A 30)), some (.ref ea), some (.ref q1), some (.ref q2), some (.int (nI (w.length - S.length - S2.length))), some (.int (nI fx.length))] 118 []
    have hM4 : gh_M [36, 37, 38] g3 g4 := hpN.M fun a ha => by
      obtain ⟨x1, x2, y1, y2, y3, -⟩ := id hW3
      rcases List.mem_cons.mp ha with rfl | ha
      · exact ⟨_, _, y1, by decide⟩
      · rcases List.mem_cons.mp ha with rfl | ha
        · exact ⟨_, _, y2, by decide⟩
        · rw [List.mem_singleton.mp ha]; exact ⟨_, _, y3, by decide⟩
    rw [slice_end, ewl] at hp1
    have ews : wls (fx ++ f) (if f ∈ wls fx fp then fp else insA fp (rnkL f (wls fx fp)) (fx.length, f.length)) = addW f (wls fx fp) := by
      unfold addW
      by_cases q : f ∈ wls fx fp
      · rw [if_pos q, if_pos q, ewl]
      · rw [if_neg q, if_neg q]
        unfold wls
        rw [insA_map]
        show insA (wls (fx ++ f) fp) _ _ = _
        rw [ewl, slice_end]
        rfl
    refine gh_vret hK hE d_Sp_putForm_118 (Nat.le_of_ble_eq_true rfl) (Nat.le_of_ble_eq_true rfl) ⟨rfl, ⟨fx ++ f, _, ⟨hb3.M hM4 (by decide) (by decide), hp1, fun p hp => ?_, by rw [ews]; exact addW_srt fsr⟩, by rw [List.length_append]; omega, ?_, by rw [ews, ef]⟩, (Mg3.wd (by decide)).tr (hM4.wd (by decide))⟩
    · rw [List.length_append]
      by_cases q : f ∈ wls fx fp
      · rw [if_pos q] at hp
        have := fv p hp
        omega
      · rw [if_neg q] at hp
        rcases insA_mem hp with q2 | q2
        · have := fv p q2
          omega
        · rw [q2]
          exact Nat.le_refl _
    · by_cases q : f ∈ wls fx fp
      · rw [if_pos q]; omega
      · rw [if_neg q, insA_len (by have := rnkL_le f (wls fx fp); rw [show (wls fx fp).length = fp.length from List.length_map ..] at this; exact this)]; exact Nat.le_refl _
  · refine gh_istore (lv' := [some (.ref (A 30)), some (.ref ea), some (.ref q1), some (.ref q2), some (.int (nI w.length - nI S.length - nI S2.length)), none]) hK d_Sp_putForm_23 (Nat.le_of_ble_eq_true rfl) rfl ?_
    refine gh_iload hK d_Sp_putForm_25 rfl ?_
    refine gh_iconst (v := nI 1) hK d_Sp_putForm_27 (by decide) ?_
    refine gh_icmp_ge hK d_Sp_putForm_28 (tgt := 32) (by decide) (fun z => absurd (sub3_neg (a := w.length) (b := S.length) (c := S2.length) (by omega) (by omega) (by omega) (by omega)) (Int32.not_lt.mpr z)) (fun z => ?_)
    exact gh_vret hK hE d_Sp_putForm_31 (Nat.le_of_ble_eq_true rfl) (Nat.le_of_ble_eq_true rfl) ⟨rfl, ⟨fx, fp, hm, by omega, by omega, by rw [show fmF (fl1, S, A1, Cc) (fl2, S2, A2, C2) w = none from if_neg hl]⟩, gh_M.rf⟩
end
section
def fmP (u1 u2 : RuR) (w : List Nat) (ef : Nat) (ws : List (List Nat)) : List (List Nat) := if goO false u2.1 u2.2.1 u2.2.2.2 w ef = true then (match fmF u1 u2 w with
  | some f => addW f ws
  | none => ws) else ws
def fmS (u1 : RuR) (us2 : List (Nat × RuR)) (w : List Nat) (ef : Nat) : Nat → Nat → List (List Nat) → List (List Nat)
  | 0, _, ws => ws
  | k + 1, s, ws => fmS u1 us2 w ef k (s + 1) (fmP u1 (rlN us2 s) w ef ws)
def fmO (us1 us2 : List (Nat × RuR)) (w : List Nat) (ef : Nat) : Nat → Nat → List (List Nat) → List (List Nat)
  | 0, _, ws => ws
  | k + 1, p, ws => fmO us1 us2 w ef k (p + 1) (if goO true (rlN us1 p).1 (rlN us1 p).2.1 (rlN us1 p).2.2.2 w ef = true then fmS (rlN us1 p) us2 w ef (us2.length + 1) 0 ws else ws)
/-- the state while forms are made -/
def FmJ (G : GG) (g0 g : GH) (A : Nat → Nat) (c : Nat) (ws : List (List Nat)) : Prop := ∃ fx fp, FmI G g A fx fp ∧ fx.length ≤ 28 * c ∧ fp.length ≤ c ∧ wls fx fp = ws ∧ gh_M [34, 35, 36, 37, 38] g0 g
theorem FmJ.up {G : GG} {g0 g : GH} {A : Nat → Nat} {c c2 : Nat} {ws : List (List Nat)} (h : FmJ G g0 g A c ws) (hc : c ≤ c2) : FmJ G g0 g A c2 ws := by
  obtain ⟨fx, fp, k1, k2, k3, k4⟩ := h
  exact ⟨fx, fp, k1, by omega, by omega, k4⟩
set_option maxRecDepth 20000 in
set_option maxHeartbeats 4000000 in
theorem c_Sp_formsOf (l : Launch) (G : GG) {g : GH} {A : Nat → Nat} {n ea ef : Nat} {es : List (Nat × List Nat × Nat)} {us1 us2 : List (Nat × RuR)} {tx w fx0 : List Nat} {fp0 : List (Nat × Nat)} (h : SpO g A n) (hm : FmI G g A fx0 fp0) (hfx : FX G g A es us1 us2 tx) (hfb : FXb es us1 us2) (hB1 : ∀ x, x ∈ us1 → RuB x.2) (hB2 : ∀ x, x ∈ us2 → RuB x.2) (he : En G g ea w ef) (hwl : w.length ≤ 16) (hef : ef < 2 ^ 26) : gMet l G y_Sp_formsOf b_Sp_formsOf 6 (some (.object "SpellDesk$WordList")) (rmk 4 0 0 116) [.ref (A 30), .ref ea] g (fun v g' => v = some (.ref (A 36)) ∧ FmJ G g g' A 81 (fmO us1 us2 w ef (us1.length + 1) 0 [])) := by
  refine gMet.of [some (.ref (A 30)), some (.ref ea), none, none, none, none] (by decide +kernel) rfl (Nat.le_of_ble_eq_true rfl) rfl (fun X hK hI hE => ?_)
  obtain ⟨fb1, fb2, fb3, fb4, fb5, fb6, fb7⟩ := hfb
  have h0 : g (A 30) = some (30, .inr (8, [.ref (A 7), .ref (A 10), .ref (A 20), .ref (A 31), .ref (A 33), .ref (A 34), .ref (A 36), .int (nI n)])) := h
  have inner : ∀ (R0 : List (List Nat)) (p q1 : Nat) (u1 : RuR), u1 = rlN us1 p → p ≤ 8 → RuX G g q1 true u1 → (∀ (g2 : GH) (o4 o5 : Option Value), FmJ G g g2 A (9 * p + 9) R0 → gh_W l G (rmk 4 0 0 116) X g2 0 0 [some (.ref (A 30)), some (.ref ea), some (.int (nI p)), some (.ref q1), o4, o5] 96 []) → ∀ (m s : Nat) (g1 : GH) (ws1 : List (List Nat)) (o5 : Option Value), s + m = us2.length + 1 → FmJ G g g1 A (9 * p + s) ws1 → fmS u1 us2 w ef m s ws1 = R0 → gh_W l G (rmk 4 0 0 116) X g1 0 0 [some (.ref (A 30)), some (.ref ea), some (.int (nI p)), some (.ref q1), some (.int (nI s)), o5] 50 [] := by
    intro R0 p q1 u1 hu1 hp8 hq1 out m
    induction m with
    | zero =>
      intro s g1 ws1 o5 hs hi1 hR
      obtain ⟨fx, fp, k1, k2, k3, k4, k5⟩ := id hi1
      have fxx := hfx.M k5 (by decide)
      have i1 : g1 (A 30) = _ := k5 _ _ _ h0 (by decide)
      refine gh_iload hK d_Sp_formsOf_50 rfl ?_
      refine gh_aload_n hK d_Sp_formsOf_52 rfl ?_
      refine gh_get hK d_Sp_formsOf_53 in_Sp rfl i1 2 (by decide) kf_Sp_19 rfl rfl ?_
      refine gh_callV (rest := [.int (nI s)]) [] hK (c_Rs_count l G fxx.2.2.1) Y_Rs_count V_Rs_count km_Sp_51 fxx.2.2.1.1 rfl rfl d_Sp_formsOf_56 rfl rfl (Nat.le_of_ble_eq_true rfl) ⟨(Nat.le_of_ble_eq_true rfl), (Nat.le_of_ble_eq_true rfl)⟩ ⟨(Nat.le_of_ble_eq_true rfl), (Nat.le_of_ble_eq_true rfl)⟩ (fun v g' hp => ?_)
      rw [hp.1, hp.2]
      show gh_W l G _ X g1 _ _ [some (.ref (A 30)), some (.ref ea), some (.int (nI p)), some (.ref q1), some (.int (nI s)), o5] 59 [.int (nI us2.length), .int (nI s)]
      refine gh_icmp_gtN hK d_Sp_formsOf_59 (tgt := 96) (by decide) (by omega) (by omega) (fun z => ?_) (fun z => absurd z (by omega))
      exact out g1 _ o5 (by rw [← hR]; exact hi1.up (by omega))
    | succ m ih =>
      intro s g1 ws1 o5 hs hi1 hR
      obtain ⟨fx, fp, k1, k2, k3, k4, k5⟩ := id hi1
      have fxx := hfx.M k5 (by decide)
      have i1 : g1 (A 30) = _ := k5 _ _ _ h0 (by decide)
      have i0 : SpO g1 A n := i1
      rw [fmS] at hR
      have nxt : ∀ (g2 : GH) (o5 : Option Value), FmJ G g g2 A (9 * p + s + 1) (fmP u1 (rlN us2 s) w ef ws1) → gh_W l G (rmk 4 0 0 116) X g2 0 0 [some (.ref (A 30)), some (.ref ea), some (.int (nI p)), some (.ref q1), some (.int (nI s)), o5] 90 [] := by
        intro g2 o5 hi2
        refine gh_incN (lv' := [some (.ref (A 30)), some (.ref ea), some (.int (nI p)), some (.ref q1), some (.int (nI (s + 1))), o5]) hK d_Sp_formsOf_90 rfl rfl ?_
        refine gh_goto (tgt := 50) hK d_Sp_formsOf_93 (by decide) ?_
        exact ih (s + 1) g2 _ o5 (by omega) hi2 hR
      refine gh_iload hK d_Sp_formsOf_50 rfl ?_
      refine gh_aload_n hK d_Sp_formsOf_52 rfl ?_
      refine gh_get hK d_Sp_formsOf_53 in_Sp rfl i1 2 (by decide) kf_Sp_19 rfl rfl ?_
      refine gh_callV (rest := [.int (nI s)]) [] hK (c_Rs_count l G fxx.2.2.1) Y_Rs_count V_Rs_count km_Sp_51 fxx.2.2.1.1 rfl rfl d_Sp_formsOf_56 rfl rfl (Nat.le_of_ble_eq_true rfl) ⟨(Nat.le_of_ble_eq_true rfl), (Nat.le_of_ble_eq_true rfl)⟩ ⟨(Nat.le_of_ble_eq_true rfl), (Nat.le_of_ble_eq_true rfl)⟩ (fun v g' hp => ?_)
      rw [hp.1, hp.2]
      show gh_W l G _ X g1 _ _ [some (.ref (A 30)), some (.ref ea), some (.int (nI p)), some (.ref q1), some (.int (nI s)), o5] 59 [.int (nI us2.length), .int (nI s)]
      refine gh_icmp_gtN hK d_Sp_formsOf_59 (tgt := 96) (by decide) (by omega) (by omega) (fun z => absurd z (by omega)) (fun z => ?_)
      refine gh_aload_n hK d_Sp_formsOf_62 rfl ?_
      refine gh_get hK d_Sp_formsOf_63 in_Sp rfl i1 2 (by decide) kf_Sp_19 rfl rfl ?_
      refine gh_iload hK d_Sp_formsOf_66 rfl ?_
      have hq2 := fxx.2.2.1.x (Or.inr rfl) (j := s) (by omega)
      generalize hQ2 : rlA (A 23) us2 s = q2 at hq2
      refine gh_callV (rest := []) [.int (nI s)] hK (c_Rs_at l G fxx.2.2.1 (Or.inr rfl) (j := s) (by omega)) Y_Rs_at V_Rs_at km_Sp_57 fxx.2.2.1.1 rfl rfl d_Sp_formsOf_68 rfl rfl (Nat.le_of_ble_eq_true rfl) ⟨(Nat.le_of_ble_eq_true rfl), (Nat.le_of_ble_eq_true rfl)⟩ ⟨(Nat.le_of_ble_eq_true rfl), (Nat.le_of_ble_eq_true rfl)⟩ (fun v g' hp => ?_)
      rw [hp.1, hp.2, hQ2]
      show gh_W l G _ X g1 _ _ [some (.ref (A 30)), some (.ref ea), some (.int (nI p)), some (.ref q1), some (.int (nI s)), o5] 71 [.ref q2]
      have hu2f := rlN_fl fb7 s
      have hu2B := rlN_B hB2 s
      generalize hu2 : rlN us2 s = u2 at hq2 hu2f hu2B nxt hR
      obtain ⟨tt1, tt2, tt3, mm1, mm2, mm3, ru2⟩ := id hq2
      obtain ⟨x1, x2, x3, x4, x5, x6, rb2, -⟩ := id ru2
      have hen := he.M k5 (by decide) (by decide) (by decide)
      refine gh_astore (lv' := [some (.ref (A 30)), some (.ref ea), some (.int (nI p)), some (.ref q1), some (.int (nI s)), some (.ref q2)]) hK d_Sp_formsOf_71 (Nat.le_of_ble_eq_true rfl) rfl ?_
      refine gh_aload hK d_Sp_formsOf_73 rfl ?_
      refine gh_aload_n hK d_Sp_formsOf_75 rfl ?_
      refine gh_callV (rest := []) [.ref ea] hK (c_Ru_goesWith l G ru2 hen hu2f hef) Y_Ru_goesWith V_Ru_goesWith km_Sp_81 rb2 rfl rfl d_Sp_formsOf_76 rfl rfl (Nat.le_of_ble_eq_true rfl) ⟨(Nat.le_of_ble_eq_true rfl), (Nat.le_of_ble_eq_true rfl)⟩ ⟨(Nat.le_of_ble_eq_true rfl), (Nat.le_of_ble_eq_true rfl)⟩ (fun v g' hp => ?_)
      rw [hp.1, hp.2]
      show gh_W l G _ X g1 _ _ [some (.ref (A 30)), some (.ref ea), some (.int (nI p)), some (.ref q1), some (.int (nI s)), some (.ref q2)] 79 [.int (nI (bn (goO false u2.1 u2.2.1 u2.2.2.2 w ef)))]
      refine gh_if_eqB hK d_Sp_formsOf_79 (tgt := 90) (by decide) (fun z3 => ?_) (fun z3 => ?_)
      · exact nxt g1 _ (by rw [fmP, if_neg (by rw [z3]; decide)]; exact hi1.up (by omega))
      · refine gh_aload_n hK d_Sp_formsOf_82 rfl ?_
        refine gh_aload_n hK d_Sp_formsOf_83 rfl ?_
        refine gh_aload_n hK d_Sp_formsOf_84 rfl ?_
        refine gh_aload hK d_Sp_formsOf_85 rfl ?_
        refine gh_callV (rest := []) [.ref ea, .ref q1, .ref q2] hK (c_Sp_putForm l G i0 k1 (hq1.M k5 (by decide)) hq2 hen hwl (by rw [hu1]; exact rlN_B hB1 p) hu2B (by omega) (by omega)) Y_Sp_putForm V_Sp_putForm km_Sp_99 i1 rfl rfl d_Sp_formsOf_87 rfl rfl (Nat.le_of_ble_eq_true rfl) ⟨(Nat.le_of_ble_eq_true rfl), (Nat.le_of_ble_eq_true rfl)⟩ ⟨(Nat.le_of_ble_eq_true rfl), (Nat.le_of_ble_eq_true rfl)⟩ (fun v g2 hp => ?_)
        obtain ⟨rfl, ⟨fx2, fp2, r1, r2, r3, r4⟩, hp3⟩ := hp
        show gh_W l G _ X g2 _ _ [some (.ref (A 30)), some (.ref ea), some (.int (nI p)), some (.ref q1), some (.int (nI s)), some (.ref q2)] 90 []
        refine nxt g2 _ ⟨fx2, fp2, r1, by omega, by omega, ?_, k5.tr hp3⟩
        rw [r4, fmP, if_pos z3, k4]
        cases fmF u1 u2 w <;> rfl
  have outer : ∀ (m p : Nat) (g1 : GH) (ws1 : List (List Nat)) (o3 o4 o5 : Option Value), p + m = us1.length + 1 → FmJ G g g1 A (9 * p) ws1 → fmO us1 us2 w ef m p ws1 = fmO us1 us2 w ef (us1.length + 1) 0 [] → gh_W l G (rmk 4 0 0 116) X g1 0 0 [some (.ref (A 30)), some (.ref ea), some (.int (nI p)), o3, o4, o5] 16 [] := by
    intro m
    induction m with
    | zero =>
      intro p g1 ws1 o3 o4 o5 hp hi1 hR
      obtain ⟨fx, fp, k1, k2, k3, k4, k5⟩ := id hi1
      have fxx := hfx.M k5 (by decide)
      have i1 : g1 (A 30) = _ := k5 _ _ _ h0 (by decide)
      refine gh_iload_n hK d_Sp_formsOf_16 rfl ?_
      refine gh_aload_n hK d_Sp_formsOf_17 rfl ?_
      refine gh_get hK d_Sp_formsOf_18 in_Sp rfl i1 1 (by decide) kf_Sp_15 rfl rfl ?_
      refine gh_callV (rest := [.int (nI p)]) [] hK (c_Rs_count l G fxx.2.1) Y_Rs_count V_Rs_count km_Sp_51 fxx.2.1.1 rfl rfl d_Sp_formsOf_21 rfl rfl (Nat.le_of_ble_eq_true rfl) ⟨(Nat.le_of_ble_eq_true rfl), (Nat.le_of_ble_eq_true rfl)⟩ ⟨(Nat.le_of_ble_eq_true rfl), (Nat.le_of_ble_eq_true rfl)⟩ (fun v g' hp => ?_)
      rw [hp.1, hp.2]
      show gh_W l G _ X g1 _ _ [some (.ref (A 30)), some (.ref ea), some (.int (nI p)), o3, o4, o5] 24 [.int (nI us1.length), .int (nI p)]
      refine gh_icmp_gtN hK d_Sp_formsOf_24 (tgt := 102) (by decide) (by omega) (by omega) (fun z => ?_) (fun z => absurd z (by omega))
      refine gh_aload_n hK d_Sp_formsOf_102 rfl ?_
      refine gh_get hK d_Sp_formsOf_103 in_Sp rfl i1 6 (by decide) kf_Sp_43 rfl rfl ?_
      exact gh_aret (Or.inl ⟨_, rfl⟩) (Or.inr ⟨_, rfl⟩) hK hE d_Sp_formsOf_106 (Nat.le_of_ble_eq_true rfl) (Nat.le_of_ble_eq_true rfl) ⟨rfl, by rw [← hR]; exact hi1.up (by omega)⟩
    | succ m ih =>
      intro p g1 ws1 o3 o4 o5 hp hi1 hR
      obtain ⟨fx, fp, k1, k2, k3, k4, k5⟩ := id hi1
      have fxx := hfx.M k5 (by decide)
      have i1 : g1 (A 30) = _ := k5 _ _ _ h0 (by decide)
      rw [fmO] at hR
      have nxt : ∀ (g2 : GH) (ws2 : List (List Nat)) (o3 o4 o5 : Option Value), FmJ G g g2 A (9 * p + 9) ws2 → ws2 = (if goO true (rlN us1 p).1 (rlN us1 p).2.1 (rlN us1 p).2.2.2 w ef = true then fmS (rlN us1 p) us2 w ef (us2.length + 1) 0 ws1 else ws1) → gh_W l G (rmk 4 0 0 116) X g2 0 0 [some (.ref (A 30)), some (.ref ea), some (.int (nI p)), o3, o4, o5] 96 [] := by
        intro g2 ws2 o3 o4 o5 hi2 he2
        refine gh_incN (lv' := [some (.ref (A 30)), some (.ref ea), some (.int (nI (p + 1))), o3, o4, o5]) hK d_Sp_formsOf_96 rfl rfl ?_
        refine gh_goto (tgt := 16) hK d_Sp_formsOf_99 (by decide) ?_
        exact ih (p + 1) g2 ws2 o3 o4 o5 (by omega) (hi2.up (by omega)) (by rw [he2]; exact hR)
      refine gh_iload_n hK d_Sp_formsOf_16 rfl ?_
      refine gh_aload_n hK d_Sp_formsOf_17 rfl ?_
      refine gh_get hK d_Sp_formsOf_18 in_Sp rfl i1 1 (by decide) kf_Sp_15 rfl rfl ?_
      refine gh_callV (rest := [.int (nI p)]) [] hK (c_Rs_count l G fxx.2.1) Y_Rs_count V_Rs_count km_Sp_51 fxx.2.1.1 rfl rfl d_Sp_formsOf_21 rfl rfl (Nat.le_of_ble_eq_true rfl) ⟨(Nat.le_of_ble_eq_true rfl), (Nat.le_of_ble_eq_true rfl)⟩ ⟨(Nat.le_of_ble_eq_true rfl), (Nat.le_of_ble_eq_true rfl)⟩ (fun v g' hp => ?_)
      rw [hp.1, hp.2]
      show gh_W l G _ X g1 _ _ [some (.ref (A 30)), some (.ref ea), some (.int (nI p)), o3, o4, o5] 24 [.int (nI us1.length), .int (nI p)]
      refine gh_icmp_gtN hK d_Sp_formsOf_24 (tgt := 102) (by decide) (by omega) (by omega) (fun z => absurd z (by omega)) (fun z => ?_)
      refine gh_aload_n hK d_Sp_formsOf_27 rfl ?_
      refine gh_get hK d_Sp_formsOf_28 in_Sp rfl i1 1 (by decide) kf_Sp_15 rfl rfl ?_
      refine gh_iload_n hK d_Sp_formsOf_31 rfl ?_
      have hq1g := hfx.2.1.x (Or.inl rfl) (j := p) (by omega)
      generalize hQ1 : rlA (A 13) us1 p = q1 at hq1g
      have hq1 := hq1g.M k5 (by decide)
      refine gh_callV (rest := []) [.int (nI p)] hK (c_Rs_at l G fxx.2.1 (Or.inl rfl) (j := p) (by omega)) Y_Rs_at V_Rs_at km_Sp_57 fxx.2.1.1 rfl rfl d_Sp_formsOf_32 rfl rfl (Nat.le_of_ble_eq_true rfl) ⟨(Nat.le_of_ble_eq_true rfl), (Nat.le_of_ble_eq_true rfl)⟩ ⟨(Nat.le_of_ble_eq_true rfl), (Nat.le_of_ble_eq_true rfl)⟩ (fun v g' hp => ?_)
      rw [hp.1, hp.2, hQ1]
      show gh_W l G _ X g1 _ _ [some (.ref (A 30)), some (.ref ea), some (.int (nI p)), o3, o4, o5] 35 [.ref q1]
      obtain ⟨vv1, vv2, vv3, nn1, nn2, nn3, ru1⟩ := id hq1
      obtain ⟨y1, y2, y3, y4, y5, y6, rb1, -⟩ := id ru1
      have hen := he.M k5 (by decide) (by decide) (by decide)
      refine gh_astore_n (lv' := [some (.ref (A 30)), some (.ref ea), some (.int (nI p)), some (.ref q1), o4, o5]) hK d_Sp_formsOf_35 (Nat.le_of_ble_eq_true rfl) rfl ?_
      refine gh_aload_n hK d_Sp_formsOf_36 rfl ?_
      refine gh_aload_n hK d_Sp_formsOf_37 rfl ?_
      refine gh_callV (rest := []) [.ref ea] hK (c_Ru_goesWith l G ru1 hen (rlN_fl fb6 p) hef) Y_Ru_goesWith V_Ru_goesWith km_Sp_81 rb1 rfl rfl d_Sp_formsOf_38 rfl rfl (Nat.le_of_ble_eq_true rfl) ⟨(Nat.le_of_ble_eq_true rfl), (Nat.le_of_ble_eq_true rfl)⟩ ⟨(Nat.le_of_ble_eq_true rfl), (Nat.le_of_ble_eq_true rfl)⟩ (fun v g' hp => ?_)
      rw [hp.1, hp.2]
      show gh_W l G _ X g1 _ _ [some (.ref (A 30)), some (.ref ea), some (.int (nI p)), some (.ref q1), o4, o5] 41 [.int (nI (bn (goO true (rlN us1 p).1 (rlN us1 p).2.1 (rlN us1 p).2.2.2 w ef)))]
      refine gh_if_neB hK d_Sp_formsOf_41 (tgt := 47) (by decide) (fun z3 => ?_) (fun z3 => ?_)
      · refine gh_iconst (v := nI 0) hK d_Sp_formsOf_47 (by decide) ?_
        refine gh_istore (lv' := [some (.ref (A 30)), some (.ref ea), some (.int (nI p)), some (.ref q1), some (.int (nI 0)), o5]) hK d_Sp_formsOf_48 (Nat.le_of_ble_eq_true rfl) rfl ?_
        exact inner _ p q1 _ rfl (by omega) hq1g (fun g2 o4 o5 hi2 => nxt g2 _ _ o4 o5 hi2 (by rw [if_pos z3])) (us2.length + 1) 0 g1 ws1 o5 (by omega) (hi1.up (by omega)) rfl
      · refine gh_goto (tgt := 96) hK d_Sp_formsOf_44 (by decide) ?_
        exact nxt g1 ws1 _ o4 o5 (hi1.up (by omega)) (by rw [if_neg (by rw [z3]; decide)])
  refine gh_aload_n hK d_Sp_formsOf_0 rfl ?_
  refine gh_get hK d_Sp_formsOf_1 in_Sp rfl h0 5 (by decide) kf_Sp_35 rfl rfl ?_
  refine gh_callV (rest := []) [] hK (c_Lt_clear l G hm.1) Y_Lt_clear V_Lt_clear km_Sp_95 hm.1.ob rfl rfl d_Sp_formsOf_4 rfl rfl (Nat.le_of_ble_eq_true rfl) ⟨(Nat.le_of_ble_eq_true rfl), (Nat.le_of_ble_eq_true rfl)⟩ ⟨(Nat.le_of_ble_eq_true rfl), (Nat.le_of_ble_eq_true rfl)⟩ (fun v g1 hp => ?_)
  obtain ⟨rfl, hb1, hN1⟩ := hp
  show gh_W l G _ X g1 _ _ [some (.ref (A 30)), some (.ref ea), none, none, none, none] 7 []
  have hM1 : gh_M [34] g g1 := hN1.M fun a ha => by
    rw [List.mem_singleton.mp ha]
    exact ⟨_, _, hm.1.ob, by decide⟩
  have hW1 := hm.2.1.M hM1 (by decide) (by decide) (by decide)
  have h1 : g1 (A 30) = _ := hM1 _ _ _ h0 (by decide)
  refine gh_aload_n hK d_Sp_formsOf_7 rfl ?_
  refine gh_get hK d_Sp_formsOf_8 in_Sp rfl h1 6 (by decide) kf_Sp_43 rfl rfl ?_
  refine gh_callV (rest := []) [] hK (c_Wl_clear l G hW1) Y_Wl_clear V_Wl_clear km_Sp_98 hW1.ob rfl rfl d_Sp_formsOf_11 rfl rfl (Nat.le_of_ble_eq_true rfl) ⟨(Nat.le_of_ble_eq_true rfl), (Nat.le_of_ble_eq_true rfl)⟩ ⟨(Nat.le_of_ble_eq_true rfl), (Nat.le_of_ble_eq_true rfl)⟩ (fun v g2 hp => ?_)
  obtain ⟨rfl, hW2, hN2⟩ := hp
  show gh_W l G _ X g2 _ _ [some (.ref (A 30)), some (.ref ea), none, none, none, none] 14 []
  have hM2 : gh_M [36] g1 g2 := hN2.M fun a ha => by
    rw [List.mem_singleton.mp ha]
    exact ⟨_, _, hW1.ob, by decide⟩
  refine gh_iconst (v := nI 0) hK d_Sp_formsOf_14 (by decide) ?_
  refine gh_istore_n (lv' := [some (.ref (A 30)), some (.ref ea), some (.int (nI 0)), none, none, none]) hK d_Sp_formsOf_15 (Nat.le_of_ble_eq_true rfl) rfl ?_
  exact outer (us1.length + 1) 0 g2 [] none none none (by omega) ⟨[], [], ⟨hb1.M hM2 (by decide) (by decide), hW2, fun p hp => absurd hp List.not_mem_nil, trivial⟩, by simp, by simp, rfl, (hM1.wd (by decide)).tr (hM2.wd (by decide))⟩ rfl
end
section
abbrev b_SD_init : ByteArray := prog_1_method_1_code
def y_SD_init : MethodName := ⟨"SpellDesk", "<init>", "()V"⟩
set_option maxRecDepth 20000 in
theorem Y_SD_init : gh_Y y_SD_init b_SD_init 1 none 0 := ⟨gt_in (i := 36) rfl rfl, gt_in (i := 1) (by decide +kernel) rfl, by decide +kernel, by decide +kernel, by decide +kernel⟩
theorem V_SD_init : Cond.instanceMethod y_SD_init ∈ gTbl := (gt_in (i := 35) (by decide +kernel) rfl)
theorem d_SD_init_0 : decode b_SD_init 0 = .ok (.aload_n 0, 1) := by decide +kernel
theorem d_SD_init_1 : decode b_SD_init 1 = .ok (.invokespecial 3, 3) := by decide +kernel
theorem d_SD_init_4 : decode b_SD_init 4 = .ok (.aload_n 0, 1) := by decide +kernel
theorem d_SD_init_5 : decode b_SD_init 5 = .ok (.new 9, 3) := by decide +kernel
theorem d_SD_init_8 : decode b_SD_init 8 = .ok (.dup, 1) := by decide +kernel
theorem d_SD_init_9 : decode b_SD_init 9 = .ok (.sipush 2048, 3) := by decide +kernel
theorem d_SD_init_12 : decode b_SD_init 12 = .ok (.invokespecial 11, 3) := by decide +kernel
theorem d_SD_init_15 : decode b_SD_init 15 = .ok (.putfield 14, 3) := by decide +kernel
theorem d_SD_init_18 : decode b_SD_init 18 = .ok (.aload_n 0, 1) := by decide +kernel
theorem d_SD_init_19 : decode b_SD_init 19 = .ok (.new 18, 3) := by decide +kernel
theorem d_SD_init_22 : decode b_SD_init 22 = .ok (.dup, 1) := by decide +kernel
theorem d_SD_init_23 : decode b_SD_init 23 = .ok (.aload_n 0, 1) := by decide +kernel
theorem d_SD_init_24 : decode b_SD_init 24 = .ok (.getfield 14, 3) := by decide +kernel
theorem d_SD_init_27 : decode b_SD_init 27 = .ok (.invokespecial 20, 3) := by decide +kernel
theorem d_SD_init_30 : decode b_SD_init 30 = .ok (.putfield 23, 3) := by decide +kernel
theorem d_SD_init_33 : decode b_SD_init 33 = .ok (.aload_n 0, 1) := by decide +kernel
theorem d_SD_init_34 : decode b_SD_init 34 = .ok (.new 27, 3) := by decide +kernel
theorem d_SD_init_37 : decode b_SD_init 37 = .ok (.dup, 1) := by decide +kernel
theorem d_SD_init_38 : decode b_SD_init 38 = .ok (.invokespecial 29, 3) := by decide +kernel
theorem d_SD_init_41 : decode b_SD_init 41 = .ok (.putfield 30, 3) := by decide +kernel
theorem d_SD_init_44 : decode b_SD_init 44 = .ok (.aload_n 0, 1) := by decide +kernel
theorem d_SD_init_45 : decode b_SD_init 45 = .ok (.new 34, 3) := by decide +kernel
theorem d_SD_init_48 : decode b_SD_init 48 = .ok (.dup, 1) := by decide +kernel
theorem d_SD_init_49 : decode b_SD_init 49 = .ok (.invokespecial 36, 3) := by decide +kernel
theorem d_SD_init_52 : decode b_SD_init 52 = .ok (.putfield 37, 3) := by decide +kernel
theorem d_SD_init_55 : decode b_SD_init 55 = .ok (.aload_n 0, 1) := by decide +kernel
theorem d_SD_init_56 : decode b_SD_init 56 = .ok (.new 41, 3) := by decide +kernel
theorem d_SD_init_59 : decode b_SD_init 59 = .ok (.dup, 1) := by decide +kernel
theorem d_SD_init_60 : decode b_SD_init 60 = .ok (.iconst 1, 1) := by decide +kernel
theorem d_SD_init_61 : decode b_SD_init 61 = .ok (.invokespecial 43, 3) := by decide +kernel
theorem d_SD_init_64 : decode b_SD_init 64 = .ok (.putfield 46, 3) := by decide +kernel
theorem d_SD_init_67 : decode b_SD_init 67 = .ok (.aload_n 0, 1) := by decide +kernel
theorem d_SD_init_68 : decode b_SD_init 68 = .ok (.new 41, 3) := by decide +kernel
theorem d_SD_init_71 : decode b_SD_init 71 = .ok (.dup, 1) := by decide +kernel
theorem d_SD_init_72 : decode b_SD_init 72 = .ok (.iconst 0, 1) := by decide +kernel
theorem d_SD_init_73 : decode b_SD_init 73 = .ok (.invokespecial 43, 3) := by decide +kernel
theorem d_SD_init_76 : decode b_SD_init 76 = .ok (.putfield 50, 3) := by decide +kernel
theorem d_SD_init_79 : decode b_SD_init 79 = .ok (.aload_n 0, 1) := by decide +kernel
theorem d_SD_init_80 : decode b_SD_init 80 = .ok (.new 53, 3) := by decide +kernel
theorem d_SD_init_83 : decode b_SD_init 83 = .ok (.dup, 1) := by decide +kernel
theorem d_SD_init_84 : decode b_SD_init 84 = .ok (.aload_n 0, 1) := by decide +kernel
theorem d_SD_init_85 : decode b_SD_init 85 = .ok (.getfield 37, 3) := by decide +kernel
theorem d_SD_init_88 : decode b_SD_init 88 = .ok (.aload_n 0, 1) := by decide +kernel
theorem d_SD_init_89 : decode b_SD_init 89 = .ok (.getfield 46, 3) := by decide +kernel
theorem d_SD_init_92 : decode b_SD_init 92 = .ok (.aload_n 0, 1) := by decide +kernel
theorem d_SD_init_93 : decode b_SD_init 93 = .ok (.getfield 50, 3) := by decide +kernel
theorem d_SD_init_96 : decode b_SD_init 96 = .ok (.invokespecial 55, 3) := by decide +kernel
theorem d_SD_init_99 : decode b_SD_init 99 = .ok (.putfield 58, 3) := by decide +kernel
theorem d_SD_init_102 : decode b_SD_init 102 = .ok (.aload_n 0, 1) := by decide +kernel
theorem d_SD_init_103 : decode b_SD_init 103 = .ok (.new 62, 3) := by decide +kernel
theorem d_SD_init_106 : decode b_SD_init 106 = .ok (.dup, 1) := by decide +kernel
theorem d_SD_init_107 : decode b_SD_init 107 = .ok (.aload_n 0, 1) := by decide +kernel
theorem d_SD_init_108 : decode b_SD_init 108 = .ok (.getfield 14, 3) := by decide +kernel
theorem d_SD_init_111 : decode b_SD_init 111 = .ok (.sipush 1024, 3) := by decide +kernel
theorem d_SD_init_114 : decode b_SD_init 114 = .ok (.invokespecial 64, 3) := by decide +kernel
theorem d_SD_init_117 : decode b_SD_init 117 = .ok (.putfield 67, 3) := by decide +kernel
theorem d_SD_init_120 : decode b_SD_init 120 = .ok (.return_, 1) := by decide +kernel
abbrev b_SD_typed : ByteArray := prog_1_method_3_code
def y_SD_typed : MethodName := ⟨"SpellDesk", "typed", "()I"⟩
set_option maxRecDepth 20000 in
theorem Y_SD_typed : gh_Y y_SD_typed b_SD_typed 1 (some .int) 0 := ⟨gt_in (i := 267) rfl rfl, gt_in (i := 1) (by decide +kernel) rfl, by decide +kernel, by decide +kernel, by decide +kernel⟩
theorem V_SD_typed : Cond.instanceMethod y_SD_typed ∈ gTbl ∧ Cond.selects y_SD_typed.cls y_SD_typed y_SD_typed ∈ gTbl := ⟨(gt_in (i := 265) (by decide +kernel) rfl), (gt_in (i := 266) (by decide +kernel) rfl)⟩
theorem d_SD_typed_0 : decode b_SD_typed 0 = .ok (.aload_n 0, 1) := by decide +kernel
theorem d_SD_typed_1 : decode b_SD_typed 1 = .ok (.getfield 14, 3) := by decide +kernel
theorem d_SD_typed_4 : decode b_SD_typed 4 = .ok (.invokevirtual 75, 3) := by decide +kernel
theorem d_SD_typed_7 : decode b_SD_typed 7 = .ok (.ireturn, 1) := by decide +kernel
abbrev b_SD_run : ByteArray := prog_1_method_4_code
def y_SD_run : MethodName := ⟨"SpellDesk", "run", "()I"⟩
set_option maxRecDepth 20000 in
theorem Y_SD_run : gh_Y y_SD_run b_SD_run 5 (some .int) 0 := ⟨gt_in (i := 275) rfl rfl, gt_in (i := 1) (by decide +kernel) rfl, by decide +kernel, by decide +kernel, by decide +kernel⟩
theorem V_SD_run : Cond.instanceMethod y_SD_run ∈ gTbl ∧ Cond.selects y_SD_run.cls y_SD_run y_SD_run ∈ gTbl := ⟨(gt_in (i := 273) (by decide +kernel) rfl), (gt_in (i := 274) (by decide +kernel) rfl)⟩
theorem d_SD_run_0 : decode b_SD_run 0 = .ok (.iconst 0, 1) := by decide +kernel
theorem d_SD_run_1 : decode b_SD_run 1 = .ok (.istore_n 1, 1) := by decide +kernel
theorem d_SD_run_2 : decode b_SD_run 2 = .ok (.iconst 0, 1) := by decide +kernel
theorem d_SD_run_3 : decode b_SD_run 3 = .ok (.istore_n 2, 1) := by decide +kernel
theorem d_SD_run_4 : decode b_SD_run 4 = .ok (.aload_n 0, 1) := by decide +kernel
theorem d_SD_run_5 : decode b_SD_run 5 = .ok (.getfield 14, 3) := by decide +kernel
theorem d_SD_run_8 : decode b_SD_run 8 = .ok (.invokevirtual 75, 3) := by decide +kernel
theorem d_SD_run_11 : decode b_SD_run 11 = .ok (.istore_n 3, 1) := by decide +kernel
theorem d_SD_run_12 : decode b_SD_run 12 = .ok (.iconst 0, 1) := by decide +kernel
theorem d_SD_run_13 : decode b_SD_run 13 = .ok (.istore 4, 2) := by decide +kernel
theorem d_SD_run_15 : decode b_SD_run 15 = .ok (.iload 4, 2) := by decide +kernel
theorem d_SD_run_17 : decode b_SD_run 17 = .ok (.iload_n 3, 1) := by decide +kernel
theorem d_SD_run_18 : decode b_SD_run 18 = .ok (.if_icmp .ge 38, 3) := by decide +kernel
theorem d_SD_run_21 : decode b_SD_run 21 = .ok (.aload_n 0, 1) := by decide +kernel
theorem d_SD_run_22 : decode b_SD_run 22 = .ok (.getfield 14, 3) := by decide +kernel
theorem d_SD_run_25 : decode b_SD_run 25 = .ok (.iload 4, 2) := by decide +kernel
theorem d_SD_run_27 : decode b_SD_run 27 = .ok (.invokevirtual 89, 3) := by decide +kernel
theorem d_SD_run_30 : decode b_SD_run 30 = .ok (.bipush 10, 2) := by decide +kernel
theorem d_SD_run_32 : decode b_SD_run 32 = .ok (.if_icmp .ne 18, 3) := by decide +kernel
theorem d_SD_run_35 : decode b_SD_run 35 = .ok (.aload_n 0, 1) := by decide +kernel
theorem d_SD_run_36 : decode b_SD_run 36 = .ok (.iload_n 2, 1) := by decide +kernel
theorem d_SD_run_37 : decode b_SD_run 37 = .ok (.iload 4, 2) := by decide +kernel
theorem d_SD_run_39 : decode b_SD_run 39 = .ok (.invokevirtual 93, 3) := by decide +kernel
theorem d_SD_run_42 : decode b_SD_run 42 = .ok (.iinc 1 1, 3) := by decide +kernel
theorem d_SD_run_45 : decode b_SD_run 45 = .ok (.iload 4, 2) := by decide +kernel
theorem d_SD_run_47 : decode b_SD_run 47 = .ok (.iconst 1, 1) := by decide +kernel
theorem d_SD_run_48 : decode b_SD_run 48 = .ok (.iadd, 1) := by decide +kernel
theorem d_SD_run_49 : decode b_SD_run 49 = .ok (.istore_n 2, 1) := by decide +kernel
theorem d_SD_run_50 : decode b_SD_run 50 = .ok (.iinc 4 1, 3) := by decide +kernel
theorem d_SD_run_53 : decode b_SD_run 53 = .ok (.goto (-38), 3) := by decide +kernel
theorem d_SD_run_56 : decode b_SD_run 56 = .ok (.iload_n 2, 1) := by decide +kernel
theorem d_SD_run_57 : decode b_SD_run 57 = .ok (.iload_n 3, 1) := by decide +kernel
theorem d_SD_run_58 : decode b_SD_run 58 = .ok (.if_icmp .ge 12, 3) := by decide +kernel
theorem d_SD_run_61 : decode b_SD_run 61 = .ok (.aload_n 0, 1) := by decide +kernel
theorem d_SD_run_62 : decode b_SD_run 62 = .ok (.iload_n 2, 1) := by decide +kernel
theorem d_SD_run_63 : decode b_SD_run 63 = .ok (.iload_n 3, 1) := by decide +kernel
theorem d_SD_run_64 : decode b_SD_run 64 = .ok (.invokevirtual 93, 3) := by decide +kernel
theorem d_SD_run_67 : decode b_SD_run 67 = .ok (.iinc 1 1, 3) := by decide +kernel
theorem d_SD_run_70 : decode b_SD_run 70 = .ok (.aload_n 0, 1) := by decide +kernel
theorem d_SD_run_71 : decode b_SD_run 71 = .ok (.getfield 14, 3) := by decide +kernel
theorem d_SD_run_74 : decode b_SD_run 74 = .ok (.invokevirtual 97, 3) := by decide +kernel
theorem d_SD_run_77 : decode b_SD_run 77 = .ok (.iload_n 1, 1) := by decide +kernel
theorem d_SD_run_78 : decode b_SD_run 78 = .ok (.ireturn, 1) := by decide +kernel
abbrev b_SD_doLine : ByteArray := prog_1_method_13_code
def y_SD_doLine : MethodName := ⟨"SpellDesk", "doLine", "(II)V"⟩
set_option maxRecDepth 20000 in
theorem Y_SD_doLine : gh_Y y_SD_doLine b_SD_doLine 4 none 2 := ⟨gt_in (i := 283) rfl rfl, gt_in (i := 1) (by decide +kernel) rfl, by decide +kernel, by decide +kernel, by decide +kernel⟩
theorem V_SD_doLine : Cond.instanceMethod y_SD_doLine ∈ gTbl ∧ Cond.selects y_SD_doLine.cls y_SD_doLine y_SD_doLine ∈ gTbl := ⟨(gt_in (i := 282) (by decide +kernel) rfl), (gt_sel (n := 8) (i := 0) (by decide +kernel))⟩
theorem d_SD_doLine_0 : decode b_SD_doLine 0 = .ok (.aload_n 0, 1) := by decide +kernel
theorem d_SD_doLine_1 : decode b_SD_doLine 1 = .ok (.getfield 23, 3) := by decide +kernel
theorem d_SD_doLine_4 : decode b_SD_doLine 4 = .ok (.iload_n 1, 1) := by decide +kernel
theorem d_SD_doLine_5 : decode b_SD_doLine 5 = .ok (.iload_n 2, 1) := by decide +kernel
theorem d_SD_doLine_6 : decode b_SD_doLine 6 = .ok (.invokevirtual 117, 3) := by decide +kernel
theorem d_SD_doLine_9 : decode b_SD_doLine 9 = .ok (.aload_n 0, 1) := by decide +kernel
theorem d_SD_doLine_10 : decode b_SD_doLine 10 = .ok (.getfield 23, 3) := by decide +kernel
theorem d_SD_doLine_13 : decode b_SD_doLine 13 = .ok (.invokevirtual 120, 3) := by decide +kernel
theorem d_SD_doLine_16 : decode b_SD_doLine 16 = .ok (.ifCond .ne 4, 3) := by decide +kernel
theorem d_SD_doLine_19 : decode b_SD_doLine 19 = .ok (.return_, 1) := by decide +kernel
theorem d_SD_doLine_20 : decode b_SD_doLine 20 = .ok (.iconst 0, 1) := by decide +kernel
theorem d_SD_doLine_21 : decode b_SD_doLine 21 = .ok (.istore_n 3, 1) := by decide +kernel
theorem d_SD_doLine_22 : decode b_SD_doLine 22 = .ok (.aload_n 0, 1) := by decide +kernel
theorem d_SD_doLine_23 : decode b_SD_doLine 23 = .ok (.getfield 23, 3) := by decide +kernel
theorem d_SD_doLine_26 : decode b_SD_doLine 26 = .ok (.ldc 124, 2) := by decide +kernel
theorem d_SD_doLine_28 : decode b_SD_doLine 28 = .ok (.invokevirtual 126, 3) := by decide +kernel
theorem d_SD_doLine_31 : decode b_SD_doLine 31 = .ok (.ifCond .eq 11, 3) := by decide +kernel
theorem d_SD_doLine_34 : decode b_SD_doLine 34 = .ok (.aload_n 0, 1) := by decide +kernel
theorem d_SD_doLine_35 : decode b_SD_doLine 35 = .ok (.invokevirtual 130, 3) := by decide +kernel
theorem d_SD_doLine_38 : decode b_SD_doLine 38 = .ok (.istore_n 3, 1) := by decide +kernel
theorem d_SD_doLine_39 : decode b_SD_doLine 39 = .ok (.goto 188, 3) := by decide +kernel
theorem d_SD_doLine_42 : decode b_SD_doLine 42 = .ok (.aload_n 0, 1) := by decide +kernel
theorem d_SD_doLine_43 : decode b_SD_doLine 43 = .ok (.getfield 23, 3) := by decide +kernel
theorem d_SD_doLine_46 : decode b_SD_doLine 46 = .ok (.ldc 133, 2) := by decide +kernel
theorem d_SD_doLine_48 : decode b_SD_doLine 48 = .ok (.invokevirtual 126, 3) := by decide +kernel
theorem d_SD_doLine_51 : decode b_SD_doLine 51 = .ok (.ifCond .eq 11, 3) := by decide +kernel
theorem d_SD_doLine_54 : decode b_SD_doLine 54 = .ok (.aload_n 0, 1) := by decide +kernel
theorem d_SD_doLine_55 : decode b_SD_doLine 55 = .ok (.invokevirtual 135, 3) := by decide +kernel
theorem d_SD_doLine_58 : decode b_SD_doLine 58 = .ok (.istore_n 3, 1) := by decide +kernel
theorem d_SD_doLine_59 : decode b_SD_doLine 59 = .ok (.goto 168, 3) := by decide +kernel
theorem d_SD_doLine_62 : decode b_SD_doLine 62 = .ok (.aload_n 0, 1) := by decide +kernel
theorem d_SD_doLine_63 : decode b_SD_doLine 63 = .ok (.getfield 23, 3) := by decide +kernel
theorem d_SD_doLine_66 : decode b_SD_doLine 66 = .ok (.ldc 138, 2) := by decide +kernel
theorem d_SD_doLine_68 : decode b_SD_doLine 68 = .ok (.invokevirtual 126, 3) := by decide +kernel
theorem d_SD_doLine_71 : decode b_SD_doLine 71 = .ok (.ifCond .eq 15, 3) := by decide +kernel
theorem d_SD_doLine_74 : decode b_SD_doLine 74 = .ok (.aload_n 0, 1) := by decide +kernel
theorem d_SD_doLine_75 : decode b_SD_doLine 75 = .ok (.aload_n 0, 1) := by decide +kernel
theorem d_SD_doLine_76 : decode b_SD_doLine 76 = .ok (.getfield 46, 3) := by decide +kernel
theorem d_SD_doLine_79 : decode b_SD_doLine 79 = .ok (.invokevirtual 140, 3) := by decide +kernel
theorem d_SD_doLine_82 : decode b_SD_doLine 82 = .ok (.istore_n 3, 1) := by decide +kernel
theorem d_SD_doLine_83 : decode b_SD_doLine 83 = .ok (.goto 144, 3) := by decide +kernel
theorem d_SD_doLine_86 : decode b_SD_doLine 86 = .ok (.aload_n 0, 1) := by decide +kernel
theorem d_SD_doLine_87 : decode b_SD_doLine 87 = .ok (.getfield 23, 3) := by decide +kernel
theorem d_SD_doLine_90 : decode b_SD_doLine 90 = .ok (.ldc 144, 2) := by decide +kernel
theorem d_SD_doLine_92 : decode b_SD_doLine 92 = .ok (.invokevirtual 126, 3) := by decide +kernel
theorem d_SD_doLine_95 : decode b_SD_doLine 95 = .ok (.ifCond .eq 15, 3) := by decide +kernel
theorem d_SD_doLine_98 : decode b_SD_doLine 98 = .ok (.aload_n 0, 1) := by decide +kernel
theorem d_SD_doLine_99 : decode b_SD_doLine 99 = .ok (.aload_n 0, 1) := by decide +kernel
theorem d_SD_doLine_100 : decode b_SD_doLine 100 = .ok (.getfield 50, 3) := by decide +kernel
theorem d_SD_doLine_103 : decode b_SD_doLine 103 = .ok (.invokevirtual 140, 3) := by decide +kernel
theorem d_SD_doLine_106 : decode b_SD_doLine 106 = .ok (.istore_n 3, 1) := by decide +kernel
theorem d_SD_doLine_107 : decode b_SD_doLine 107 = .ok (.goto 120, 3) := by decide +kernel
theorem d_SD_doLine_110 : decode b_SD_doLine 110 = .ok (.aload_n 0, 1) := by decide +kernel
theorem d_SD_doLine_111 : decode b_SD_doLine 111 = .ok (.getfield 23, 3) := by decide +kernel
theorem d_SD_doLine_114 : decode b_SD_doLine 114 = .ok (.ldc 146, 2) := by decide +kernel
theorem d_SD_doLine_116 : decode b_SD_doLine 116 = .ok (.invokevirtual 126, 3) := by decide +kernel
theorem d_SD_doLine_119 : decode b_SD_doLine 119 = .ok (.ifCond .eq 11, 3) := by decide +kernel
theorem d_SD_doLine_122 : decode b_SD_doLine 122 = .ok (.aload_n 0, 1) := by decide +kernel
theorem d_SD_doLine_123 : decode b_SD_doLine 123 = .ok (.invokevirtual 148, 3) := by decide +kernel
theorem d_SD_doLine_126 : decode b_SD_doLine 126 = .ok (.istore_n 3, 1) := by decide +kernel
theorem d_SD_doLine_127 : decode b_SD_doLine 127 = .ok (.goto 100, 3) := by decide +kernel
theorem d_SD_doLine_130 : decode b_SD_doLine 130 = .ok (.aload_n 0, 1) := by decide +kernel
theorem d_SD_doLine_131 : decode b_SD_doLine 131 = .ok (.getfield 23, 3) := by decide +kernel
theorem d_SD_doLine_134 : decode b_SD_doLine 134 = .ok (.ldc 151, 2) := by decide +kernel
theorem d_SD_doLine_136 : decode b_SD_doLine 136 = .ok (.invokevirtual 126, 3) := by decide +kernel
theorem d_SD_doLine_139 : decode b_SD_doLine 139 = .ok (.ifCond .eq 11, 3) := by decide +kernel
theorem d_SD_doLine_142 : decode b_SD_doLine 142 = .ok (.aload_n 0, 1) := by decide +kernel
theorem d_SD_doLine_143 : decode b_SD_doLine 143 = .ok (.invokevirtual 153, 3) := by decide +kernel
theorem d_SD_doLine_146 : decode b_SD_doLine 146 = .ok (.istore_n 3, 1) := by decide +kernel
theorem d_SD_doLine_147 : decode b_SD_doLine 147 = .ok (.goto 80, 3) := by decide +kernel
theorem d_SD_doLine_150 : decode b_SD_doLine 150 = .ok (.aload_n 0, 1) := by decide +kernel
theorem d_SD_doLine_151 : decode b_SD_doLine 151 = .ok (.getfield 23, 3) := by decide +kernel
theorem d_SD_doLine_154 : decode b_SD_doLine 154 = .ok (.ldc 156, 2) := by decide +kernel
theorem d_SD_doLine_156 : decode b_SD_doLine 156 = .ok (.invokevirtual 126, 3) := by decide +kernel
theorem d_SD_doLine_159 : decode b_SD_doLine 159 = .ok (.ifCond .eq 11, 3) := by decide +kernel
theorem d_SD_doLine_162 : decode b_SD_doLine 162 = .ok (.aload_n 0, 1) := by decide +kernel
theorem d_SD_doLine_163 : decode b_SD_doLine 163 = .ok (.invokevirtual 158, 3) := by decide +kernel
theorem d_SD_doLine_166 : decode b_SD_doLine 166 = .ok (.istore_n 3, 1) := by decide +kernel
theorem d_SD_doLine_167 : decode b_SD_doLine 167 = .ok (.goto 60, 3) := by decide +kernel
theorem d_SD_doLine_170 : decode b_SD_doLine 170 = .ok (.aload_n 0, 1) := by decide +kernel
theorem d_SD_doLine_171 : decode b_SD_doLine 171 = .ok (.getfield 23, 3) := by decide +kernel
theorem d_SD_doLine_174 : decode b_SD_doLine 174 = .ok (.ldc 161, 2) := by decide +kernel
theorem d_SD_doLine_176 : decode b_SD_doLine 176 = .ok (.invokevirtual 126, 3) := by decide +kernel
theorem d_SD_doLine_179 : decode b_SD_doLine 179 = .ok (.ifCond .eq 11, 3) := by decide +kernel
theorem d_SD_doLine_182 : decode b_SD_doLine 182 = .ok (.aload_n 0, 1) := by decide +kernel
theorem d_SD_doLine_183 : decode b_SD_doLine 183 = .ok (.invokevirtual 163, 3) := by decide +kernel
theorem d_SD_doLine_186 : decode b_SD_doLine 186 = .ok (.istore_n 3, 1) := by decide +kernel
theorem d_SD_doLine_187 : decode b_SD_doLine 187 = .ok (.goto 40, 3) := by decide +kernel
theorem d_SD_doLine_190 : decode b_SD_doLine 190 = .ok (.aload_n 0, 1) := by decide +kernel
theorem d_SD_doLine_191 : decode b_SD_doLine 191 = .ok (.getfield 23, 3) := by decide +kernel
theorem d_SD_doLine_194 : decode b_SD_doLine 194 = .ok (.ldc 166, 2) := by decide +kernel
theorem d_SD_doLine_196 : decode b_SD_doLine 196 = .ok (.invokevirtual 126, 3) := by decide +kernel
theorem d_SD_doLine_199 : decode b_SD_doLine 199 = .ok (.ifCond .eq 11, 3) := by decide +kernel
theorem d_SD_doLine_202 : decode b_SD_doLine 202 = .ok (.aload_n 0, 1) := by decide +kernel
theorem d_SD_doLine_203 : decode b_SD_doLine 203 = .ok (.invokevirtual 167, 3) := by decide +kernel
theorem d_SD_doLine_206 : decode b_SD_doLine 206 = .ok (.istore_n 3, 1) := by decide +kernel
theorem d_SD_doLine_207 : decode b_SD_doLine 207 = .ok (.goto 20, 3) := by decide +kernel
theorem d_SD_doLine_210 : decode b_SD_doLine 210 = .ok (.aload_n 0, 1) := by decide +kernel
theorem d_SD_doLine_211 : decode b_SD_doLine 211 = .ok (.getfield 23, 3) := by decide +kernel
theorem d_SD_doLine_214 : decode b_SD_doLine 214 = .ok (.ldc 170, 2) := by decide +kernel
theorem d_SD_doLine_216 : decode b_SD_doLine 216 = .ok (.invokevirtual 126, 3) := by decide +kernel
theorem d_SD_doLine_219 : decode b_SD_doLine 219 = .ok (.ifCond .eq 8, 3) := by decide +kernel
theorem d_SD_doLine_222 : decode b_SD_doLine 222 = .ok (.aload_n 0, 1) := by decide +kernel
theorem d_SD_doLine_223 : decode b_SD_doLine 223 = .ok (.invokevirtual 171, 3) := by decide +kernel
theorem d_SD_doLine_226 : decode b_SD_doLine 226 = .ok (.istore_n 3, 1) := by decide +kernel
theorem d_SD_doLine_227 : decode b_SD_doLine 227 = .ok (.iload_n 3, 1) := by decide +kernel
theorem d_SD_doLine_228 : decode b_SD_doLine 228 = .ok (.ifCond .ne 26, 3) := by decide +kernel
theorem d_SD_doLine_231 : decode b_SD_doLine 231 = .ok (.aload_n 0, 1) := by decide +kernel
theorem d_SD_doLine_232 : decode b_SD_doLine 232 = .ok (.getfield 30, 3) := by decide +kernel
theorem d_SD_doLine_235 : decode b_SD_doLine 235 = .ok (.ldc 174, 2) := by decide +kernel
theorem d_SD_doLine_237 : decode b_SD_doLine 237 = .ok (.invokevirtual 176, 3) := by decide +kernel
theorem d_SD_doLine_240 : decode b_SD_doLine 240 = .ok (.aload_n 0, 1) := by decide +kernel
theorem d_SD_doLine_241 : decode b_SD_doLine 241 = .ok (.getfield 30, 3) := by decide +kernel
theorem d_SD_doLine_244 : decode b_SD_doLine 244 = .ok (.aload_n 0, 1) := by decide +kernel
theorem d_SD_doLine_245 : decode b_SD_doLine 245 = .ok (.getfield 23, 3) := by decide +kernel
theorem d_SD_doLine_248 : decode b_SD_doLine 248 = .ok (.invokevirtual 179, 3) := by decide +kernel
theorem d_SD_doLine_251 : decode b_SD_doLine 251 = .ok (.invokevirtual 182, 3) := by decide +kernel
theorem d_SD_doLine_254 : decode b_SD_doLine 254 = .ok (.aload_n 0, 1) := by decide +kernel
theorem d_SD_doLine_255 : decode b_SD_doLine 255 = .ok (.getfield 30, 3) := by decide +kernel
theorem d_SD_doLine_258 : decode b_SD_doLine 258 = .ok (.invokevirtual 185, 3) := by decide +kernel
theorem d_SD_doLine_261 : decode b_SD_doLine 261 = .ok (.return_, 1) := by decide +kernel
abbrev b_SD_doAdd : ByteArray := prog_1_method_14_code
def y_SD_doAdd : MethodName := ⟨"SpellDesk", "doAdd", "()Z"⟩
set_option maxRecDepth 20000 in
theorem Y_SD_doAdd : gh_Y y_SD_doAdd b_SD_doAdd 6 (some .boolean) 0 := ⟨gt_in (i := 349) rfl rfl, gt_in (i := 1) (by decide +kernel) rfl, by decide +kernel, by decide +kernel, by decide +kernel⟩
theorem V_SD_doAdd : Cond.instanceMethod y_SD_doAdd ∈ gTbl ∧ Cond.selects y_SD_doAdd.cls y_SD_doAdd y_SD_doAdd ∈ gTbl := ⟨(gt_in (i := 348) (by decide +kernel) rfl), (gt_sel (n := 8) (i := 1) (by decide +kernel))⟩
theorem d_SD_doAdd_0 : decode b_SD_doAdd 0 = .ok (.aload_n 0, 1) := by decide +kernel
theorem d_SD_doAdd_1 : decode b_SD_doAdd 1 = .ok (.getfield 23, 3) := by decide +kernel
theorem d_SD_doAdd_4 : decode b_SD_doAdd 4 = .ok (.invokevirtual 120, 3) := by decide +kernel
theorem d_SD_doAdd_7 : decode b_SD_doAdd 7 = .ok (.ifCond .ne 5, 3) := by decide +kernel
theorem d_SD_doAdd_10 : decode b_SD_doAdd 10 = .ok (.iconst 0, 1) := by decide +kernel
theorem d_SD_doAdd_11 : decode b_SD_doAdd 11 = .ok (.ireturn, 1) := by decide +kernel
theorem d_SD_doAdd_12 : decode b_SD_doAdd 12 = .ok (.aload_n 0, 1) := by decide +kernel
theorem d_SD_doAdd_13 : decode b_SD_doAdd 13 = .ok (.getfield 23, 3) := by decide +kernel
theorem d_SD_doAdd_16 : decode b_SD_doAdd 16 = .ok (.invokevirtual 188, 3) := by decide +kernel
theorem d_SD_doAdd_19 : decode b_SD_doAdd 19 = .ok (.istore_n 1, 1) := by decide +kernel
theorem d_SD_doAdd_20 : decode b_SD_doAdd 20 = .ok (.aload_n 0, 1) := by decide +kernel
theorem d_SD_doAdd_21 : decode b_SD_doAdd 21 = .ok (.getfield 23, 3) := by decide +kernel
theorem d_SD_doAdd_24 : decode b_SD_doAdd 24 = .ok (.invokevirtual 191, 3) := by decide +kernel
theorem d_SD_doAdd_27 : decode b_SD_doAdd 27 = .ok (.istore_n 2, 1) := by decide +kernel
theorem d_SD_doAdd_28 : decode b_SD_doAdd 28 = .ok (.aload_n 0, 1) := by decide +kernel
theorem d_SD_doAdd_29 : decode b_SD_doAdd 29 = .ok (.getfield 23, 3) := by decide +kernel
theorem d_SD_doAdd_32 : decode b_SD_doAdd 32 = .ok (.iload_n 2, 1) := by decide +kernel
theorem d_SD_doAdd_33 : decode b_SD_doAdd 33 = .ok (.invokevirtual 194, 3) := by decide +kernel
theorem d_SD_doAdd_36 : decode b_SD_doAdd 36 = .ok (.istore_n 3, 1) := by decide +kernel
theorem d_SD_doAdd_37 : decode b_SD_doAdd 37 = .ok (.iload_n 2, 1) := by decide +kernel
theorem d_SD_doAdd_38 : decode b_SD_doAdd 38 = .ok (.iconst 1, 1) := by decide +kernel
theorem d_SD_doAdd_39 : decode b_SD_doAdd 39 = .ok (.if_icmp .lt 23, 3) := by decide +kernel
theorem d_SD_doAdd_42 : decode b_SD_doAdd 42 = .ok (.iload_n 2, 1) := by decide +kernel
theorem d_SD_doAdd_43 : decode b_SD_doAdd 43 = .ok (.bipush 16, 2) := by decide +kernel
theorem d_SD_doAdd_45 : decode b_SD_doAdd 45 = .ok (.if_icmp .gt 17, 3) := by decide +kernel
theorem d_SD_doAdd_48 : decode b_SD_doAdd 48 = .ok (.iload_n 3, 1) := by decide +kernel
theorem d_SD_doAdd_49 : decode b_SD_doAdd 49 = .ok (.ifCond .lt 13, 3) := by decide +kernel
theorem d_SD_doAdd_52 : decode b_SD_doAdd 52 = .ok (.aload_n 0, 1) := by decide +kernel
theorem d_SD_doAdd_53 : decode b_SD_doAdd 53 = .ok (.getfield 23, 3) := by decide +kernel
theorem d_SD_doAdd_56 : decode b_SD_doAdd 56 = .ok (.invokevirtual 197, 3) := by decide +kernel
theorem d_SD_doAdd_59 : decode b_SD_doAdd 59 = .ok (.ifCond .ne 5, 3) := by decide +kernel
theorem d_SD_doAdd_62 : decode b_SD_doAdd 62 = .ok (.iconst 0, 1) := by decide +kernel
theorem d_SD_doAdd_63 : decode b_SD_doAdd 63 = .ok (.ireturn, 1) := by decide +kernel
theorem d_SD_doAdd_64 : decode b_SD_doAdd 64 = .ok (.aload_n 0, 1) := by decide +kernel
theorem d_SD_doAdd_65 : decode b_SD_doAdd 65 = .ok (.getfield 37, 3) := by decide +kernel
theorem d_SD_doAdd_68 : decode b_SD_doAdd 68 = .ok (.aload_n 0, 1) := by decide +kernel
theorem d_SD_doAdd_69 : decode b_SD_doAdd 69 = .ok (.getfield 14, 3) := by decide +kernel
theorem d_SD_doAdd_72 : decode b_SD_doAdd 72 = .ok (.iload_n 1, 1) := by decide +kernel
theorem d_SD_doAdd_73 : decode b_SD_doAdd 73 = .ok (.iload_n 2, 1) := by decide +kernel
theorem d_SD_doAdd_74 : decode b_SD_doAdd 74 = .ok (.invokevirtual 200, 3) := by decide +kernel
theorem d_SD_doAdd_77 : decode b_SD_doAdd 77 = .ok (.istore 4, 2) := by decide +kernel
theorem d_SD_doAdd_79 : decode b_SD_doAdd 79 = .ok (.aload_n 0, 1) := by decide +kernel
theorem d_SD_doAdd_80 : decode b_SD_doAdd 80 = .ok (.getfield 37, 3) := by decide +kernel
theorem d_SD_doAdd_83 : decode b_SD_doAdd 83 = .ok (.iload 4, 2) := by decide +kernel
theorem d_SD_doAdd_85 : decode b_SD_doAdd 85 = .ok (.aload_n 0, 1) := by decide +kernel
theorem d_SD_doAdd_86 : decode b_SD_doAdd 86 = .ok (.getfield 14, 3) := by decide +kernel
theorem d_SD_doAdd_89 : decode b_SD_doAdd 89 = .ok (.iload_n 1, 1) := by decide +kernel
theorem d_SD_doAdd_90 : decode b_SD_doAdd 90 = .ok (.iload_n 2, 1) := by decide +kernel
theorem d_SD_doAdd_91 : decode b_SD_doAdd 91 = .ok (.invokevirtual 204, 3) := by decide +kernel
theorem d_SD_doAdd_94 : decode b_SD_doAdd 94 = .ok (.astore 5, 2) := by decide +kernel
theorem d_SD_doAdd_96 : decode b_SD_doAdd 96 = .ok (.aload 5, 2) := by decide +kernel
theorem d_SD_doAdd_98 : decode b_SD_doAdd 98 = .ok (.ifnull 21, 3) := by decide +kernel
theorem d_SD_doAdd_101 : decode b_SD_doAdd 101 = .ok (.aload 5, 2) := by decide +kernel
theorem d_SD_doAdd_103 : decode b_SD_doAdd 103 = .ok (.iload_n 3, 1) := by decide +kernel
theorem d_SD_doAdd_104 : decode b_SD_doAdd 104 = .ok (.putfield 207, 3) := by decide +kernel
theorem d_SD_doAdd_107 : decode b_SD_doAdd 107 = .ok (.aload_n 0, 1) := by decide +kernel
theorem d_SD_doAdd_108 : decode b_SD_doAdd 108 = .ok (.getfield 30, 3) := by decide +kernel
theorem d_SD_doAdd_111 : decode b_SD_doAdd 111 = .ok (.ldc 213, 2) := by decide +kernel
theorem d_SD_doAdd_113 : decode b_SD_doAdd 113 = .ok (.invokevirtual 176, 3) := by decide +kernel
theorem d_SD_doAdd_116 : decode b_SD_doAdd 116 = .ok (.goto 63, 3) := by decide +kernel
theorem d_SD_doAdd_119 : decode b_SD_doAdd 119 = .ok (.aload_n 0, 1) := by decide +kernel
theorem d_SD_doAdd_120 : decode b_SD_doAdd 120 = .ok (.getfield 37, 3) := by decide +kernel
theorem d_SD_doAdd_123 : decode b_SD_doAdd 123 = .ok (.invokevirtual 111, 3) := by decide +kernel
theorem d_SD_doAdd_126 : decode b_SD_doAdd 126 = .ok (.sipush 300, 3) := by decide +kernel
theorem d_SD_doAdd_129 : decode b_SD_doAdd 129 = .ok (.if_icmp .lt 15, 3) := by decide +kernel
theorem d_SD_doAdd_132 : decode b_SD_doAdd 132 = .ok (.aload_n 0, 1) := by decide +kernel
theorem d_SD_doAdd_133 : decode b_SD_doAdd 133 = .ok (.getfield 30, 3) := by decide +kernel
theorem d_SD_doAdd_136 : decode b_SD_doAdd 136 = .ok (.ldc 215, 2) := by decide +kernel
theorem d_SD_doAdd_138 : decode b_SD_doAdd 138 = .ok (.invokevirtual 176, 3) := by decide +kernel
theorem d_SD_doAdd_141 : decode b_SD_doAdd 141 = .ok (.goto 38, 3) := by decide +kernel
theorem d_SD_doAdd_144 : decode b_SD_doAdd 144 = .ok (.aload_n 0, 1) := by decide +kernel
theorem d_SD_doAdd_145 : decode b_SD_doAdd 145 = .ok (.getfield 37, 3) := by decide +kernel
theorem d_SD_doAdd_148 : decode b_SD_doAdd 148 = .ok (.iload 4, 2) := by decide +kernel
theorem d_SD_doAdd_150 : decode b_SD_doAdd 150 = .ok (.new 208, 3) := by decide +kernel
theorem d_SD_doAdd_153 : decode b_SD_doAdd 153 = .ok (.dup, 1) := by decide +kernel
theorem d_SD_doAdd_154 : decode b_SD_doAdd 154 = .ok (.aload_n 0, 1) := by decide +kernel
theorem d_SD_doAdd_155 : decode b_SD_doAdd 155 = .ok (.getfield 14, 3) := by decide +kernel
theorem d_SD_doAdd_158 : decode b_SD_doAdd 158 = .ok (.iload_n 1, 1) := by decide +kernel
theorem d_SD_doAdd_159 : decode b_SD_doAdd 159 = .ok (.iload_n 2, 1) := by decide +kernel
theorem d_SD_doAdd_160 : decode b_SD_doAdd 160 = .ok (.invokevirtual 217, 3) := by decide +kernel
theorem d_SD_doAdd_163 : decode b_SD_doAdd 163 = .ok (.iload_n 3, 1) := by decide +kernel
theorem d_SD_doAdd_164 : decode b_SD_doAdd 164 = .ok (.invokespecial 221, 3) := by decide +kernel
theorem d_SD_doAdd_167 : decode b_SD_doAdd 167 = .ok (.invokevirtual 222, 3) := by decide +kernel
theorem d_SD_doAdd_170 : decode b_SD_doAdd 170 = .ok (.aload_n 0, 1) := by decide +kernel
theorem d_SD_doAdd_171 : decode b_SD_doAdd 171 = .ok (.getfield 30, 3) := by decide +kernel
theorem d_SD_doAdd_174 : decode b_SD_doAdd 174 = .ok (.ldc 226, 2) := by decide +kernel
theorem d_SD_doAdd_176 : decode b_SD_doAdd 176 = .ok (.invokevirtual 176, 3) := by decide +kernel
theorem d_SD_doAdd_179 : decode b_SD_doAdd 179 = .ok (.iconst 1, 1) := by decide +kernel
theorem d_SD_doAdd_180 : decode b_SD_doAdd 180 = .ok (.ireturn, 1) := by decide +kernel
abbrev b_SD_doDrop : ByteArray := prog_1_method_15_code
def y_SD_doDrop : MethodName := ⟨"SpellDesk", "doDrop", "()Z"⟩
set_option maxRecDepth 20000 in
theorem Y_SD_doDrop : gh_Y y_SD_doDrop b_SD_doDrop 2 (some .boolean) 0 := ⟨gt_in (i := 795) rfl rfl, gt_in (i := 1) (by decide +kernel) rfl, by decide +kernel, by decide +kernel, by decide +kernel⟩
theorem V_SD_doDrop : Cond.instanceMethod y_SD_doDrop ∈ gTbl ∧ Cond.selects y_SD_doDrop.cls y_SD_doDrop y_SD_doDrop ∈ gTbl := ⟨(gt_in (i := 794) (by decide +kernel) rfl), (gt_sel (n := 8) (i := 8) (by decide +kernel))⟩
theorem d_SD_doDrop_0 : decode b_SD_doDrop 0 = .ok (.aload_n 0, 1) := by decide +kernel
theorem d_SD_doDrop_1 : decode b_SD_doDrop 1 = .ok (.getfield 23, 3) := by decide +kernel
theorem d_SD_doDrop_4 : decode b_SD_doDrop 4 = .ok (.bipush 16, 2) := by decide +kernel
theorem d_SD_doDrop_6 : decode b_SD_doDrop 6 = .ok (.invokevirtual 228, 3) := by decide +kernel
theorem d_SD_doDrop_9 : decode b_SD_doDrop 9 = .ok (.ifCond .ne 5, 3) := by decide +kernel
theorem d_SD_doDrop_12 : decode b_SD_doDrop 12 = .ok (.iconst 0, 1) := by decide +kernel
theorem d_SD_doDrop_13 : decode b_SD_doDrop 13 = .ok (.ireturn, 1) := by decide +kernel
theorem d_SD_doDrop_14 : decode b_SD_doDrop 14 = .ok (.aload_n 0, 1) := by decide +kernel
theorem d_SD_doDrop_15 : decode b_SD_doDrop 15 = .ok (.getfield 37, 3) := by decide +kernel
theorem d_SD_doDrop_18 : decode b_SD_doDrop 18 = .ok (.aload_n 0, 1) := by decide +kernel
theorem d_SD_doDrop_19 : decode b_SD_doDrop 19 = .ok (.getfield 14, 3) := by decide +kernel
theorem d_SD_doDrop_22 : decode b_SD_doDrop 22 = .ok (.aload_n 0, 1) := by decide +kernel
theorem d_SD_doDrop_23 : decode b_SD_doDrop 23 = .ok (.getfield 23, 3) := by decide +kernel
theorem d_SD_doDrop_26 : decode b_SD_doDrop 26 = .ok (.invokevirtual 232, 3) := by decide +kernel
theorem d_SD_doDrop_29 : decode b_SD_doDrop 29 = .ok (.aload_n 0, 1) := by decide +kernel
theorem d_SD_doDrop_30 : decode b_SD_doDrop 30 = .ok (.getfield 23, 3) := by decide +kernel
theorem d_SD_doDrop_33 : decode b_SD_doDrop 33 = .ok (.invokevirtual 235, 3) := by decide +kernel
theorem d_SD_doDrop_36 : decode b_SD_doDrop 36 = .ok (.invokevirtual 200, 3) := by decide +kernel
theorem d_SD_doDrop_39 : decode b_SD_doDrop 39 = .ok (.istore_n 1, 1) := by decide +kernel
theorem d_SD_doDrop_40 : decode b_SD_doDrop 40 = .ok (.aload_n 0, 1) := by decide +kernel
theorem d_SD_doDrop_41 : decode b_SD_doDrop 41 = .ok (.getfield 37, 3) := by decide +kernel
theorem d_SD_doDrop_44 : decode b_SD_doDrop 44 = .ok (.iload_n 1, 1) := by decide +kernel
theorem d_SD_doDrop_45 : decode b_SD_doDrop 45 = .ok (.aload_n 0, 1) := by decide +kernel
theorem d_SD_doDrop_46 : decode b_SD_doDrop 46 = .ok (.getfield 14, 3) := by decide +kernel
theorem d_SD_doDrop_49 : decode b_SD_doDrop 49 = .ok (.aload_n 0, 1) := by decide +kernel
theorem d_SD_doDrop_50 : decode b_SD_doDrop 50 = .ok (.getfield 23, 3) := by decide +kernel
theorem d_SD_doDrop_53 : decode b_SD_doDrop 53 = .ok (.invokevirtual 232, 3) := by decide +kernel
theorem d_SD_doDrop_56 : decode b_SD_doDrop 56 = .ok (.aload_n 0, 1) := by decide +kernel
theorem d_SD_doDrop_57 : decode b_SD_doDrop 57 = .ok (.getfield 23, 3) := by decide +kernel
theorem d_SD_doDrop_60 : decode b_SD_doDrop 60 = .ok (.invokevirtual 235, 3) := by decide +kernel
theorem d_SD_doDrop_63 : decode b_SD_doDrop 63 = .ok (.invokevirtual 204, 3) := by decide +kernel
theorem d_SD_doDrop_66 : decode b_SD_doDrop 66 = .ok (.ifnonnull 15, 3) := by decide +kernel
theorem d_SD_doDrop_69 : decode b_SD_doDrop 69 = .ok (.aload_n 0, 1) := by decide +kernel
theorem d_SD_doDrop_70 : decode b_SD_doDrop 70 = .ok (.getfield 30, 3) := by decide +kernel
theorem d_SD_doDrop_73 : decode b_SD_doDrop 73 = .ok (.ldc 238, 2) := by decide +kernel
theorem d_SD_doDrop_75 : decode b_SD_doDrop 75 = .ok (.invokevirtual 176, 3) := by decide +kernel
theorem d_SD_doDrop_78 : decode b_SD_doDrop 78 = .ok (.goto 20, 3) := by decide +kernel
theorem d_SD_doDrop_81 : decode b_SD_doDrop 81 = .ok (.aload_n 0, 1) := by decide +kernel
theorem d_SD_doDrop_82 : decode b_SD_doDrop 82 = .ok (.getfield 37, 3) := by decide +kernel
theorem d_SD_doDrop_85 : decode b_SD_doDrop 85 = .ok (.iload_n 1, 1) := by decide +kernel
theorem d_SD_doDrop_86 : decode b_SD_doDrop 86 = .ok (.invokevirtual 240, 3) := by decide +kernel
theorem d_SD_doDrop_89 : decode b_SD_doDrop 89 = .ok (.aload_n 0, 1) := by decide +kernel
theorem d_SD_doDrop_90 : decode b_SD_doDrop 90 = .ok (.getfield 30, 3) := by decide +kernel
theorem d_SD_doDrop_93 : decode b_SD_doDrop 93 = .ok (.ldc 226, 2) := by decide +kernel
theorem d_SD_doDrop_95 : decode b_SD_doDrop 95 = .ok (.invokevirtual 176, 3) := by decide +kernel
theorem d_SD_doDrop_98 : decode b_SD_doDrop 98 = .ok (.iconst 1, 1) := by decide +kernel
theorem d_SD_doDrop_99 : decode b_SD_doDrop 99 = .ok (.ireturn, 1) := by decide +kernel
abbrev b_SD_doRule : ByteArray := prog_1_method_16_code
def y_SD_doRule : MethodName := ⟨"SpellDesk", "doRule", "(LSpellDesk$RuleList;)Z"⟩
set_option maxRecDepth 20000 in
theorem Y_SD_doRule : gh_Y y_SD_doRule b_SD_doRule 3 (some .boolean) 1 := ⟨gt_in (i := 831) rfl rfl, gt_in (i := 1) (by decide +kernel) rfl, by decide +kernel, by decide +kernel, by decide +kernel⟩
theorem V_SD_doRule : Cond.instanceMethod y_SD_doRule ∈ gTbl ∧ Cond.selects y_SD_doRule.cls y_SD_doRule y_SD_doRule ∈ gTbl := ⟨(gt_in (i := 830) (by decide +kernel) rfl), (gt_sel (n := 8) (i := 10) (by decide +kernel))⟩
theorem d_SD_doRule_0 : decode b_SD_doRule 0 = .ok (.aload_n 0, 1) := by decide +kernel
theorem d_SD_doRule_1 : decode b_SD_doRule 1 = .ok (.aload_n 1, 1) := by decide +kernel
theorem d_SD_doRule_2 : decode b_SD_doRule 2 = .ok (.invokevirtual 243, 3) := by decide +kernel
theorem d_SD_doRule_5 : decode b_SD_doRule 5 = .ok (.invokevirtual 246, 3) := by decide +kernel
theorem d_SD_doRule_8 : decode b_SD_doRule 8 = .ok (.astore_n 2, 1) := by decide +kernel
theorem d_SD_doRule_9 : decode b_SD_doRule 9 = .ok (.aload_n 2, 1) := by decide +kernel
theorem d_SD_doRule_10 : decode b_SD_doRule 10 = .ok (.ifnonnull 5, 3) := by decide +kernel
theorem d_SD_doRule_13 : decode b_SD_doRule 13 = .ok (.iconst 0, 1) := by decide +kernel
theorem d_SD_doRule_14 : decode b_SD_doRule 14 = .ok (.ireturn, 1) := by decide +kernel
theorem d_SD_doRule_15 : decode b_SD_doRule 15 = .ok (.aload_n 1, 1) := by decide +kernel
theorem d_SD_doRule_16 : decode b_SD_doRule 16 = .ok (.invokevirtual 112, 3) := by decide +kernel
theorem d_SD_doRule_19 : decode b_SD_doRule 19 = .ok (.bipush 8, 2) := by decide +kernel
theorem d_SD_doRule_21 : decode b_SD_doRule 21 = .ok (.if_icmp .lt 15, 3) := by decide +kernel
theorem d_SD_doRule_24 : decode b_SD_doRule 24 = .ok (.aload_n 0, 1) := by decide +kernel
theorem d_SD_doRule_25 : decode b_SD_doRule 25 = .ok (.getfield 30, 3) := by decide +kernel
theorem d_SD_doRule_28 : decode b_SD_doRule 28 = .ok (.ldc 215, 2) := by decide +kernel
theorem d_SD_doRule_30 : decode b_SD_doRule 30 = .ok (.invokevirtual 176, 3) := by decide +kernel
theorem d_SD_doRule_33 : decode b_SD_doRule 33 = .ok (.goto 17, 3) := by decide +kernel
theorem d_SD_doRule_36 : decode b_SD_doRule 36 = .ok (.aload_n 1, 1) := by decide +kernel
theorem d_SD_doRule_37 : decode b_SD_doRule 37 = .ok (.aload_n 2, 1) := by decide +kernel
theorem d_SD_doRule_38 : decode b_SD_doRule 38 = .ok (.invokevirtual 250, 3) := by decide +kernel
theorem d_SD_doRule_41 : decode b_SD_doRule 41 = .ok (.aload_n 0, 1) := by decide +kernel
theorem d_SD_doRule_42 : decode b_SD_doRule 42 = .ok (.getfield 30, 3) := by decide +kernel
theorem d_SD_doRule_45 : decode b_SD_doRule 45 = .ok (.ldc 226, 2) := by decide +kernel
theorem d_SD_doRule_47 : decode b_SD_doRule 47 = .ok (.invokevirtual 176, 3) := by decide +kernel
theorem d_SD_doRule_50 : decode b_SD_doRule 50 = .ok (.iconst 1, 1) := by decide +kernel
theorem d_SD_doRule_51 : decode b_SD_doRule 51 = .ok (.ireturn, 1) := by decide +kernel
abbrev b_SD_readRule : ByteArray := prog_1_method_17_code
def y_SD_readRule : MethodName := ⟨"SpellDesk", "readRule", "(Z)LSpellDesk$Rule;"⟩
set_option maxRecDepth 20000 in
theorem Y_SD_readRule : gh_Y y_SD_readRule b_SD_readRule 6 (some (.object "SpellDesk$Rule")) 1 := ⟨gt_in (i := 839) rfl rfl, gt_in (i := 1) (by decide +kernel) rfl, by decide +kernel, by decide +kernel, by decide +kernel⟩
theorem V_SD_readRule : Cond.instanceMethod y_SD_readRule ∈ gTbl ∧ Cond.selects y_SD_readRule.cls y_SD_readRule y_SD_readRule ∈ gTbl := ⟨(gt_in (i := 838) (by decide +kernel) rfl), (gt_sel (n := 8) (i := 11) (by decide +kernel))⟩
theorem d_SD_readRule_0 : decode b_SD_readRule 0 = .ok (.aload_n 0, 1) := by decide +kernel
theorem d_SD_readRule_1 : decode b_SD_readRule 1 = .ok (.getfield 23, 3) := by decide +kernel
theorem d_SD_readRule_4 : decode b_SD_readRule 4 = .ok (.invokevirtual 120, 3) := by decide +kernel
theorem d_SD_readRule_7 : decode b_SD_readRule 7 = .ok (.ifCond .eq 13, 3) := by decide +kernel
theorem d_SD_readRule_10 : decode b_SD_readRule 10 = .ok (.aload_n 0, 1) := by decide +kernel
theorem d_SD_readRule_11 : decode b_SD_readRule 11 = .ok (.getfield 23, 3) := by decide +kernel
theorem d_SD_readRule_14 : decode b_SD_readRule 14 = .ok (.invokevirtual 253, 3) := by decide +kernel
theorem d_SD_readRule_17 : decode b_SD_readRule 17 = .ok (.ifCond .ne 5, 3) := by decide +kernel
theorem d_SD_readRule_20 : decode b_SD_readRule 20 = .ok (.aconst_null, 1) := by decide +kernel
theorem d_SD_readRule_21 : decode b_SD_readRule 21 = .ok (.areturn, 1) := by decide +kernel
theorem d_SD_readRule_22 : decode b_SD_readRule 22 = .ok (.aload_n 0, 1) := by decide +kernel
theorem d_SD_readRule_23 : decode b_SD_readRule 23 = .ok (.getfield 23, 3) := by decide +kernel
theorem d_SD_readRule_26 : decode b_SD_readRule 26 = .ok (.invokevirtual 253, 3) := by decide +kernel
theorem d_SD_readRule_29 : decode b_SD_readRule 29 = .ok (.istore_n 2, 1) := by decide +kernel
theorem d_SD_readRule_30 : decode b_SD_readRule 30 = .ok (.aload_n 0, 1) := by decide +kernel
theorem d_SD_readRule_31 : decode b_SD_readRule 31 = .ok (.getfield 23, 3) := by decide +kernel
theorem d_SD_readRule_34 : decode b_SD_readRule 34 = .ok (.iconst 0, 1) := by decide +kernel
theorem d_SD_readRule_35 : decode b_SD_readRule 35 = .ok (.invokevirtual 256, 3) := by decide +kernel
theorem d_SD_readRule_38 : decode b_SD_readRule 38 = .ok (.ifCond .ne 5, 3) := by decide +kernel
theorem d_SD_readRule_41 : decode b_SD_readRule 41 = .ok (.aconst_null, 1) := by decide +kernel
theorem d_SD_readRule_42 : decode b_SD_readRule 42 = .ok (.areturn, 1) := by decide +kernel
theorem d_SD_readRule_43 : decode b_SD_readRule 43 = .ok (.aload_n 0, 1) := by decide +kernel
theorem d_SD_readRule_44 : decode b_SD_readRule 44 = .ok (.getfield 23, 3) := by decide +kernel
theorem d_SD_readRule_47 : decode b_SD_readRule 47 = .ok (.invokevirtual 260, 3) := by decide +kernel
theorem d_SD_readRule_50 : decode b_SD_readRule 50 = .ok (.astore_n 3, 1) := by decide +kernel
theorem d_SD_readRule_51 : decode b_SD_readRule 51 = .ok (.aload_n 0, 1) := by decide +kernel
theorem d_SD_readRule_52 : decode b_SD_readRule 52 = .ok (.getfield 23, 3) := by decide +kernel
theorem d_SD_readRule_55 : decode b_SD_readRule 55 = .ok (.iconst 0, 1) := by decide +kernel
theorem d_SD_readRule_56 : decode b_SD_readRule 56 = .ok (.invokevirtual 256, 3) := by decide +kernel
theorem d_SD_readRule_59 : decode b_SD_readRule 59 = .ok (.ifCond .ne 5, 3) := by decide +kernel
theorem d_SD_readRule_62 : decode b_SD_readRule 62 = .ok (.aconst_null, 1) := by decide +kernel
theorem d_SD_readRule_63 : decode b_SD_readRule 63 = .ok (.areturn, 1) := by decide +kernel
theorem d_SD_readRule_64 : decode b_SD_readRule 64 = .ok (.aload_n 0, 1) := by decide +kernel
theorem d_SD_readRule_65 : decode b_SD_readRule 65 = .ok (.getfield 23, 3) := by decide +kernel
theorem d_SD_readRule_68 : decode b_SD_readRule 68 = .ok (.invokevirtual 260, 3) := by decide +kernel
theorem d_SD_readRule_71 : decode b_SD_readRule 71 = .ok (.astore 4, 2) := by decide +kernel
theorem d_SD_readRule_73 : decode b_SD_readRule 73 = .ok (.aload_n 0, 1) := by decide +kernel
theorem d_SD_readRule_74 : decode b_SD_readRule 74 = .ok (.getfield 23, 3) := by decide +kernel
theorem d_SD_readRule_77 : decode b_SD_readRule 77 = .ok (.iconst 1, 1) := by decide +kernel
theorem d_SD_readRule_78 : decode b_SD_readRule 78 = .ok (.invokevirtual 256, 3) := by decide +kernel
theorem d_SD_readRule_81 : decode b_SD_readRule 81 = .ok (.ifCond .ne 5, 3) := by decide +kernel
theorem d_SD_readRule_84 : decode b_SD_readRule 84 = .ok (.aconst_null, 1) := by decide +kernel
theorem d_SD_readRule_85 : decode b_SD_readRule 85 = .ok (.areturn, 1) := by decide +kernel
theorem d_SD_readRule_86 : decode b_SD_readRule 86 = .ok (.aload_n 0, 1) := by decide +kernel
theorem d_SD_readRule_87 : decode b_SD_readRule 87 = .ok (.getfield 23, 3) := by decide +kernel
theorem d_SD_readRule_90 : decode b_SD_readRule 90 = .ok (.invokevirtual 260, 3) := by decide +kernel
theorem d_SD_readRule_93 : decode b_SD_readRule 93 = .ok (.astore 5, 2) := by decide +kernel
theorem d_SD_readRule_95 : decode b_SD_readRule 95 = .ok (.aload_n 0, 1) := by decide +kernel
theorem d_SD_readRule_96 : decode b_SD_readRule 96 = .ok (.getfield 23, 3) := by decide +kernel
theorem d_SD_readRule_99 : decode b_SD_readRule 99 = .ok (.invokevirtual 197, 3) := by decide +kernel
theorem d_SD_readRule_102 : decode b_SD_readRule 102 = .ok (.ifCond .ne 5, 3) := by decide +kernel
theorem d_SD_readRule_105 : decode b_SD_readRule 105 = .ok (.aconst_null, 1) := by decide +kernel
theorem d_SD_readRule_106 : decode b_SD_readRule 106 = .ok (.areturn, 1) := by decide +kernel
theorem d_SD_readRule_107 : decode b_SD_readRule 107 = .ok (.new 264, 3) := by decide +kernel
theorem d_SD_readRule_110 : decode b_SD_readRule 110 = .ok (.dup, 1) := by decide +kernel
theorem d_SD_readRule_111 : decode b_SD_readRule 111 = .ok (.iload_n 1, 1) := by decide +kernel
theorem d_SD_readRule_112 : decode b_SD_readRule 112 = .ok (.iload_n 2, 1) := by decide +kernel
theorem d_SD_readRule_113 : decode b_SD_readRule 113 = .ok (.aload_n 3, 1) := by decide +kernel
theorem d_SD_readRule_114 : decode b_SD_readRule 114 = .ok (.aload 4, 2) := by decide +kernel
theorem d_SD_readRule_116 : decode b_SD_readRule 116 = .ok (.aload 5, 2) := by decide +kernel
theorem d_SD_readRule_118 : decode b_SD_readRule 118 = .ok (.invokespecial 266, 3) := by decide +kernel
theorem d_SD_readRule_121 : decode b_SD_readRule 121 = .ok (.areturn, 1) := by decide +kernel
abbrev b_SD_doCheck : ByteArray := prog_1_method_18_code
def y_SD_doCheck : MethodName := ⟨"SpellDesk", "doCheck", "()Z"⟩
set_option maxRecDepth 20000 in
theorem Y_SD_doCheck : gh_Y y_SD_doCheck b_SD_doCheck 2 (some .boolean) 0 := ⟨gt_in (i := 879) rfl rfl, gt_in (i := 1) (by decide +kernel) rfl, by decide +kernel, by decide +kernel, by decide +kernel⟩
theorem V_SD_doCheck : Cond.instanceMethod y_SD_doCheck ∈ gTbl ∧ Cond.selects y_SD_doCheck.cls y_SD_doCheck y_SD_doCheck ∈ gTbl := ⟨(gt_in (i := 878) (by decide +kernel) rfl), (gt_sel (n := 8) (i := 13) (by decide +kernel))⟩
theorem d_SD_doCheck_0 : decode b_SD_doCheck 0 = .ok (.aload_n 0, 1) := by decide +kernel
theorem d_SD_doCheck_1 : decode b_SD_doCheck 1 = .ok (.getfield 67, 3) := by decide +kernel
theorem d_SD_doCheck_4 : decode b_SD_doCheck 4 = .ok (.invokevirtual 269, 3) := by decide +kernel
theorem d_SD_doCheck_7 : decode b_SD_doCheck 7 = .ok (.aload_n 0, 1) := by decide +kernel
theorem d_SD_doCheck_8 : decode b_SD_doCheck 8 = .ok (.getfield 23, 3) := by decide +kernel
theorem d_SD_doCheck_11 : decode b_SD_doCheck 11 = .ok (.bipush 28, 2) := by decide +kernel
theorem d_SD_doCheck_13 : decode b_SD_doCheck 13 = .ok (.invokevirtual 270, 3) := by decide +kernel
theorem d_SD_doCheck_16 : decode b_SD_doCheck 16 = .ok (.ifCond .ne 5, 3) := by decide +kernel
theorem d_SD_doCheck_19 : decode b_SD_doCheck 19 = .ok (.iconst 0, 1) := by decide +kernel
theorem d_SD_doCheck_20 : decode b_SD_doCheck 20 = .ok (.ireturn, 1) := by decide +kernel
theorem d_SD_doCheck_21 : decode b_SD_doCheck 21 = .ok (.aload_n 0, 1) := by decide +kernel
theorem d_SD_doCheck_22 : decode b_SD_doCheck 22 = .ok (.getfield 67, 3) := by decide +kernel
theorem d_SD_doCheck_25 : decode b_SD_doCheck 25 = .ok (.aload_n 0, 1) := by decide +kernel
theorem d_SD_doCheck_26 : decode b_SD_doCheck 26 = .ok (.getfield 23, 3) := by decide +kernel
theorem d_SD_doCheck_29 : decode b_SD_doCheck 29 = .ok (.invokevirtual 232, 3) := by decide +kernel
theorem d_SD_doCheck_32 : decode b_SD_doCheck 32 = .ok (.aload_n 0, 1) := by decide +kernel
theorem d_SD_doCheck_33 : decode b_SD_doCheck 33 = .ok (.getfield 23, 3) := by decide +kernel
theorem d_SD_doCheck_36 : decode b_SD_doCheck 36 = .ok (.invokevirtual 235, 3) := by decide +kernel
theorem d_SD_doCheck_39 : decode b_SD_doCheck 39 = .ok (.invokevirtual 273, 3) := by decide +kernel
theorem d_SD_doCheck_42 : decode b_SD_doCheck 42 = .ok (.iconst 0, 1) := by decide +kernel
theorem d_SD_doCheck_43 : decode b_SD_doCheck 43 = .ok (.istore_n 1, 1) := by decide +kernel
theorem d_SD_doCheck_44 : decode b_SD_doCheck 44 = .ok (.iload_n 1, 1) := by decide +kernel
theorem d_SD_doCheck_45 : decode b_SD_doCheck 45 = .ok (.sipush 1024, 3) := by decide +kernel
theorem d_SD_doCheck_48 : decode b_SD_doCheck 48 = .ok (.if_icmp .ge 54, 3) := by decide +kernel
theorem d_SD_doCheck_51 : decode b_SD_doCheck 51 = .ok (.aload_n 0, 1) := by decide +kernel
theorem d_SD_doCheck_52 : decode b_SD_doCheck 52 = .ok (.getfield 23, 3) := by decide +kernel
theorem d_SD_doCheck_55 : decode b_SD_doCheck 55 = .ok (.invokevirtual 197, 3) := by decide +kernel
theorem d_SD_doCheck_58 : decode b_SD_doCheck 58 = .ok (.ifCond .ne 44, 3) := by decide +kernel
theorem d_SD_doCheck_61 : decode b_SD_doCheck 61 = .ok (.aload_n 0, 1) := by decide +kernel
theorem d_SD_doCheck_62 : decode b_SD_doCheck 62 = .ok (.getfield 23, 3) := by decide +kernel
theorem d_SD_doCheck_65 : decode b_SD_doCheck 65 = .ok (.bipush 28, 2) := by decide +kernel
theorem d_SD_doCheck_67 : decode b_SD_doCheck 67 = .ok (.invokevirtual 276, 3) := by decide +kernel
theorem d_SD_doCheck_70 : decode b_SD_doCheck 70 = .ok (.ifCond .ne 5, 3) := by decide +kernel
theorem d_SD_doCheck_73 : decode b_SD_doCheck 73 = .ok (.iconst 0, 1) := by decide +kernel
theorem d_SD_doCheck_74 : decode b_SD_doCheck 74 = .ok (.ireturn, 1) := by decide +kernel
theorem d_SD_doCheck_75 : decode b_SD_doCheck 75 = .ok (.aload_n 0, 1) := by decide +kernel
theorem d_SD_doCheck_76 : decode b_SD_doCheck 76 = .ok (.getfield 67, 3) := by decide +kernel
theorem d_SD_doCheck_79 : decode b_SD_doCheck 79 = .ok (.aload_n 0, 1) := by decide +kernel
theorem d_SD_doCheck_80 : decode b_SD_doCheck 80 = .ok (.getfield 23, 3) := by decide +kernel
theorem d_SD_doCheck_83 : decode b_SD_doCheck 83 = .ok (.invokevirtual 232, 3) := by decide +kernel
theorem d_SD_doCheck_86 : decode b_SD_doCheck 86 = .ok (.aload_n 0, 1) := by decide +kernel
theorem d_SD_doCheck_87 : decode b_SD_doCheck 87 = .ok (.getfield 23, 3) := by decide +kernel
theorem d_SD_doCheck_90 : decode b_SD_doCheck 90 = .ok (.invokevirtual 235, 3) := by decide +kernel
theorem d_SD_doCheck_93 : decode b_SD_doCheck 93 = .ok (.invokevirtual 273, 3) := by decide +kernel
theorem d_SD_doCheck_96 : decode b_SD_doCheck 96 = .ok (.iinc 1 1, 3) := by decide +kernel
theorem d_SD_doCheck_99 : decode b_SD_doCheck 99 = .ok (.goto (-55), 3) := by decide +kernel
theorem d_SD_doCheck_102 : decode b_SD_doCheck 102 = .ok (.iconst 0, 1) := by decide +kernel
theorem d_SD_doCheck_103 : decode b_SD_doCheck 103 = .ok (.istore_n 1, 1) := by decide +kernel
theorem d_SD_doCheck_104 : decode b_SD_doCheck 104 = .ok (.iload_n 1, 1) := by decide +kernel
theorem d_SD_doCheck_105 : decode b_SD_doCheck 105 = .ok (.aload_n 0, 1) := by decide +kernel
theorem d_SD_doCheck_106 : decode b_SD_doCheck 106 = .ok (.getfield 67, 3) := by decide +kernel
theorem d_SD_doCheck_109 : decode b_SD_doCheck 109 = .ok (.invokevirtual 279, 3) := by decide +kernel
theorem d_SD_doCheck_112 : decode b_SD_doCheck 112 = .ok (.if_icmp .ge 67, 3) := by decide +kernel
theorem d_SD_doCheck_115 : decode b_SD_doCheck 115 = .ok (.aload_n 0, 1) := by decide +kernel
theorem d_SD_doCheck_116 : decode b_SD_doCheck 116 = .ok (.getfield 58, 3) := by decide +kernel
theorem d_SD_doCheck_119 : decode b_SD_doCheck 119 = .ok (.aload_n 0, 1) := by decide +kernel
theorem d_SD_doCheck_120 : decode b_SD_doCheck 120 = .ok (.getfield 14, 3) := by decide +kernel
theorem d_SD_doCheck_123 : decode b_SD_doCheck 123 = .ok (.aload_n 0, 1) := by decide +kernel
theorem d_SD_doCheck_124 : decode b_SD_doCheck 124 = .ok (.getfield 67, 3) := by decide +kernel
theorem d_SD_doCheck_127 : decode b_SD_doCheck 127 = .ok (.iload_n 1, 1) := by decide +kernel
theorem d_SD_doCheck_128 : decode b_SD_doCheck 128 = .ok (.invokevirtual 280, 3) := by decide +kernel
theorem d_SD_doCheck_131 : decode b_SD_doCheck 131 = .ok (.aload_n 0, 1) := by decide +kernel
theorem d_SD_doCheck_132 : decode b_SD_doCheck 132 = .ok (.getfield 67, 3) := by decide +kernel
theorem d_SD_doCheck_135 : decode b_SD_doCheck 135 = .ok (.iload_n 1, 1) := by decide +kernel
theorem d_SD_doCheck_136 : decode b_SD_doCheck 136 = .ok (.invokevirtual 283, 3) := by decide +kernel
theorem d_SD_doCheck_139 : decode b_SD_doCheck 139 = .ok (.iconst 1, 1) := by decide +kernel
theorem d_SD_doCheck_140 : decode b_SD_doCheck 140 = .ok (.invokevirtual 286, 3) := by decide +kernel
theorem d_SD_doCheck_143 : decode b_SD_doCheck 143 = .ok (.ifCond .ne 30, 3) := by decide +kernel
theorem d_SD_doCheck_146 : decode b_SD_doCheck 146 = .ok (.aload_n 0, 1) := by decide +kernel
theorem d_SD_doCheck_147 : decode b_SD_doCheck 147 = .ok (.getfield 30, 3) := by decide +kernel
theorem d_SD_doCheck_150 : decode b_SD_doCheck 150 = .ok (.aload_n 0, 1) := by decide +kernel
theorem d_SD_doCheck_151 : decode b_SD_doCheck 151 = .ok (.getfield 14, 3) := by decide +kernel
theorem d_SD_doCheck_154 : decode b_SD_doCheck 154 = .ok (.aload_n 0, 1) := by decide +kernel
theorem d_SD_doCheck_155 : decode b_SD_doCheck 155 = .ok (.getfield 67, 3) := by decide +kernel
theorem d_SD_doCheck_158 : decode b_SD_doCheck 158 = .ok (.iload_n 1, 1) := by decide +kernel
theorem d_SD_doCheck_159 : decode b_SD_doCheck 159 = .ok (.invokevirtual 280, 3) := by decide +kernel
theorem d_SD_doCheck_162 : decode b_SD_doCheck 162 = .ok (.aload_n 0, 1) := by decide +kernel
theorem d_SD_doCheck_163 : decode b_SD_doCheck 163 = .ok (.getfield 67, 3) := by decide +kernel
theorem d_SD_doCheck_166 : decode b_SD_doCheck 166 = .ok (.iload_n 1, 1) := by decide +kernel
theorem d_SD_doCheck_167 : decode b_SD_doCheck 167 = .ok (.invokevirtual 283, 3) := by decide +kernel
theorem d_SD_doCheck_170 : decode b_SD_doCheck 170 = .ok (.invokevirtual 290, 3) := by decide +kernel
theorem d_SD_doCheck_173 : decode b_SD_doCheck 173 = .ok (.iinc 1 1, 3) := by decide +kernel
theorem d_SD_doCheck_176 : decode b_SD_doCheck 176 = .ok (.goto (-72), 3) := by decide +kernel
theorem d_SD_doCheck_179 : decode b_SD_doCheck 179 = .ok (.aload_n 0, 1) := by decide +kernel
theorem d_SD_doCheck_180 : decode b_SD_doCheck 180 = .ok (.getfield 30, 3) := by decide +kernel
theorem d_SD_doCheck_183 : decode b_SD_doCheck 183 = .ok (.invokevirtual 294, 3) := by decide +kernel
theorem d_SD_doCheck_186 : decode b_SD_doCheck 186 = .ok (.iconst 1, 1) := by decide +kernel
theorem d_SD_doCheck_187 : decode b_SD_doCheck 187 = .ok (.ireturn, 1) := by decide +kernel
abbrev b_SD_doLook : ByteArray := prog_1_method_19_code
def y_SD_doLook : MethodName := ⟨"SpellDesk", "doLook", "()Z"⟩
set_option maxRecDepth 20000 in
theorem Y_SD_doLook : gh_Y y_SD_doLook b_SD_doLook 4 (some .boolean) 0 := ⟨gt_in (i := 971) rfl rfl, gt_in (i := 1) (by decide +kernel) rfl, by decide +kernel, by decide +kernel, by decide +kernel⟩
theorem V_SD_doLook : Cond.instanceMethod y_SD_doLook ∈ gTbl ∧ Cond.selects y_SD_doLook.cls y_SD_doLook y_SD_doLook ∈ gTbl := ⟨(gt_in (i := 970) (by decide +kernel) rfl), (gt_sel (n := 8) (i := 17) (by decide +kernel))⟩
theorem d_SD_doLook_0 : decode b_SD_doLook 0 = .ok (.aload_n 0, 1) := by decide +kernel
theorem d_SD_doLook_1 : decode b_SD_doLook 1 = .ok (.getfield 23, 3) := by decide +kernel
theorem d_SD_doLook_4 : decode b_SD_doLook 4 = .ok (.bipush 16, 2) := by decide +kernel
theorem d_SD_doLook_6 : decode b_SD_doLook 6 = .ok (.invokevirtual 228, 3) := by decide +kernel
theorem d_SD_doLook_9 : decode b_SD_doLook 9 = .ok (.ifCond .ne 5, 3) := by decide +kernel
theorem d_SD_doLook_12 : decode b_SD_doLook 12 = .ok (.iconst 0, 1) := by decide +kernel
theorem d_SD_doLook_13 : decode b_SD_doLook 13 = .ok (.ireturn, 1) := by decide +kernel
theorem d_SD_doLook_14 : decode b_SD_doLook 14 = .ok (.aload_n 0, 1) := by decide +kernel
theorem d_SD_doLook_15 : decode b_SD_doLook 15 = .ok (.getfield 37, 3) := by decide +kernel
theorem d_SD_doLook_18 : decode b_SD_doLook 18 = .ok (.aload_n 0, 1) := by decide +kernel
theorem d_SD_doLook_19 : decode b_SD_doLook 19 = .ok (.getfield 14, 3) := by decide +kernel
theorem d_SD_doLook_22 : decode b_SD_doLook 22 = .ok (.aload_n 0, 1) := by decide +kernel
theorem d_SD_doLook_23 : decode b_SD_doLook 23 = .ok (.getfield 23, 3) := by decide +kernel
theorem d_SD_doLook_26 : decode b_SD_doLook 26 = .ok (.invokevirtual 232, 3) := by decide +kernel
theorem d_SD_doLook_29 : decode b_SD_doLook 29 = .ok (.aload_n 0, 1) := by decide +kernel
theorem d_SD_doLook_30 : decode b_SD_doLook 30 = .ok (.getfield 23, 3) := by decide +kernel
theorem d_SD_doLook_33 : decode b_SD_doLook 33 = .ok (.invokevirtual 235, 3) := by decide +kernel
theorem d_SD_doLook_36 : decode b_SD_doLook 36 = .ok (.invokevirtual 200, 3) := by decide +kernel
theorem d_SD_doLook_39 : decode b_SD_doLook 39 = .ok (.istore_n 1, 1) := by decide +kernel
theorem d_SD_doLook_40 : decode b_SD_doLook 40 = .ok (.iload_n 1, 1) := by decide +kernel
theorem d_SD_doLook_41 : decode b_SD_doLook 41 = .ok (.istore_n 2, 1) := by decide +kernel
theorem d_SD_doLook_42 : decode b_SD_doLook 42 = .ok (.iload_n 2, 1) := by decide +kernel
theorem d_SD_doLook_43 : decode b_SD_doLook 43 = .ok (.aload_n 0, 1) := by decide +kernel
theorem d_SD_doLook_44 : decode b_SD_doLook 44 = .ok (.getfield 37, 3) := by decide +kernel
theorem d_SD_doLook_47 : decode b_SD_doLook 47 = .ok (.invokevirtual 111, 3) := by decide +kernel
theorem d_SD_doLook_50 : decode b_SD_doLook 50 = .ok (.if_icmp .ge 69, 3) := by decide +kernel
theorem d_SD_doLook_53 : decode b_SD_doLook 53 = .ok (.aload_n 0, 1) := by decide +kernel
theorem d_SD_doLook_54 : decode b_SD_doLook 54 = .ok (.getfield 37, 3) := by decide +kernel
theorem d_SD_doLook_57 : decode b_SD_doLook 57 = .ok (.iload_n 2, 1) := by decide +kernel
theorem d_SD_doLook_58 : decode b_SD_doLook 58 = .ok (.invokevirtual 297, 3) := by decide +kernel
theorem d_SD_doLook_61 : decode b_SD_doLook 61 = .ok (.astore_n 3, 1) := by decide +kernel
theorem d_SD_doLook_62 : decode b_SD_doLook 62 = .ok (.aload_n 3, 1) := by decide +kernel
theorem d_SD_doLook_63 : decode b_SD_doLook 63 = .ok (.ifnull 56, 3) := by decide +kernel
theorem d_SD_doLook_66 : decode b_SD_doLook 66 = .ok (.aload_n 3, 1) := by decide +kernel
theorem d_SD_doLook_67 : decode b_SD_doLook 67 = .ok (.aload_n 0, 1) := by decide +kernel
theorem d_SD_doLook_68 : decode b_SD_doLook 68 = .ok (.getfield 14, 3) := by decide +kernel
theorem d_SD_doLook_71 : decode b_SD_doLook 71 = .ok (.aload_n 0, 1) := by decide +kernel
theorem d_SD_doLook_72 : decode b_SD_doLook 72 = .ok (.getfield 23, 3) := by decide +kernel
theorem d_SD_doLook_75 : decode b_SD_doLook 75 = .ok (.invokevirtual 232, 3) := by decide +kernel
theorem d_SD_doLook_78 : decode b_SD_doLook 78 = .ok (.aload_n 0, 1) := by decide +kernel
theorem d_SD_doLook_79 : decode b_SD_doLook 79 = .ok (.getfield 23, 3) := by decide +kernel
theorem d_SD_doLook_82 : decode b_SD_doLook 82 = .ok (.invokevirtual 235, 3) := by decide +kernel
theorem d_SD_doLook_85 : decode b_SD_doLook 85 = .ok (.invokevirtual 300, 3) := by decide +kernel
theorem d_SD_doLook_88 : decode b_SD_doLook 88 = .ok (.ifCond .ne 6, 3) := by decide +kernel
theorem d_SD_doLook_91 : decode b_SD_doLook 91 = .ok (.goto 28, 3) := by decide +kernel
theorem d_SD_doLook_94 : decode b_SD_doLook 94 = .ok (.aload_n 0, 1) := by decide +kernel
theorem d_SD_doLook_95 : decode b_SD_doLook 95 = .ok (.getfield 30, 3) := by decide +kernel
theorem d_SD_doLook_98 : decode b_SD_doLook 98 = .ok (.aload_n 3, 1) := by decide +kernel
theorem d_SD_doLook_99 : decode b_SD_doLook 99 = .ok (.getfield 304, 3) := by decide +kernel
theorem d_SD_doLook_102 : decode b_SD_doLook 102 = .ok (.iconst 0, 1) := by decide +kernel
theorem d_SD_doLook_103 : decode b_SD_doLook 103 = .ok (.aload_n 3, 1) := by decide +kernel
theorem d_SD_doLook_104 : decode b_SD_doLook 104 = .ok (.getfield 304, 3) := by decide +kernel
theorem d_SD_doLook_107 : decode b_SD_doLook 107 = .ok (.invokevirtual 75, 3) := by decide +kernel
theorem d_SD_doLook_110 : decode b_SD_doLook 110 = .ok (.invokevirtual 290, 3) := by decide +kernel
theorem d_SD_doLook_113 : decode b_SD_doLook 113 = .ok (.iinc 2 1, 3) := by decide +kernel
theorem d_SD_doLook_116 : decode b_SD_doLook 116 = .ok (.goto (-74), 3) := by decide +kernel
theorem d_SD_doLook_119 : decode b_SD_doLook 119 = .ok (.aload_n 0, 1) := by decide +kernel
theorem d_SD_doLook_120 : decode b_SD_doLook 120 = .ok (.getfield 30, 3) := by decide +kernel
theorem d_SD_doLook_123 : decode b_SD_doLook 123 = .ok (.invokevirtual 294, 3) := by decide +kernel
theorem d_SD_doLook_126 : decode b_SD_doLook 126 = .ok (.iconst 1, 1) := by decide +kernel
theorem d_SD_doLook_127 : decode b_SD_doLook 127 = .ok (.ireturn, 1) := by decide +kernel
abbrev b_SD_doWhy : ByteArray := prog_1_method_20_code
def y_SD_doWhy : MethodName := ⟨"SpellDesk", "doWhy", "()Z"⟩
set_option maxRecDepth 20000 in
theorem Y_SD_doWhy : gh_Y y_SD_doWhy b_SD_doWhy 3 (some .boolean) 0 := ⟨gt_in (i := 983) rfl rfl, gt_in (i := 1) (by decide +kernel) rfl, by decide +kernel, by decide +kernel, by decide +kernel⟩
theorem V_SD_doWhy : Cond.instanceMethod y_SD_doWhy ∈ gTbl ∧ Cond.selects y_SD_doWhy.cls y_SD_doWhy y_SD_doWhy ∈ gTbl := ⟨(gt_in (i := 982) (by decide +kernel) rfl), (gt_sel (n := 8) (i := 18) (by decide +kernel))⟩
theorem d_SD_doWhy_0 : decode b_SD_doWhy 0 = .ok (.aload_n 0, 1) := by decide +kernel
theorem d_SD_doWhy_1 : decode b_SD_doWhy 1 = .ok (.getfield 23, 3) := by decide +kernel
theorem d_SD_doWhy_4 : decode b_SD_doWhy 4 = .ok (.bipush 28, 2) := by decide +kernel
theorem d_SD_doWhy_6 : decode b_SD_doWhy 6 = .ok (.invokevirtual 228, 3) := by decide +kernel
theorem d_SD_doWhy_9 : decode b_SD_doWhy 9 = .ok (.ifCond .ne 5, 3) := by decide +kernel
theorem d_SD_doWhy_12 : decode b_SD_doWhy 12 = .ok (.iconst 0, 1) := by decide +kernel
theorem d_SD_doWhy_13 : decode b_SD_doWhy 13 = .ok (.ireturn, 1) := by decide +kernel
theorem d_SD_doWhy_14 : decode b_SD_doWhy 14 = .ok (.aload_n 0, 1) := by decide +kernel
theorem d_SD_doWhy_15 : decode b_SD_doWhy 15 = .ok (.getfield 58, 3) := by decide +kernel
theorem d_SD_doWhy_18 : decode b_SD_doWhy 18 = .ok (.aload_n 0, 1) := by decide +kernel
theorem d_SD_doWhy_19 : decode b_SD_doWhy 19 = .ok (.getfield 14, 3) := by decide +kernel
theorem d_SD_doWhy_22 : decode b_SD_doWhy 22 = .ok (.aload_n 0, 1) := by decide +kernel
theorem d_SD_doWhy_23 : decode b_SD_doWhy 23 = .ok (.getfield 23, 3) := by decide +kernel
theorem d_SD_doWhy_26 : decode b_SD_doWhy 26 = .ok (.invokevirtual 232, 3) := by decide +kernel
theorem d_SD_doWhy_29 : decode b_SD_doWhy 29 = .ok (.aload_n 0, 1) := by decide +kernel
theorem d_SD_doWhy_30 : decode b_SD_doWhy 30 = .ok (.getfield 23, 3) := by decide +kernel
theorem d_SD_doWhy_33 : decode b_SD_doWhy 33 = .ok (.invokevirtual 235, 3) := by decide +kernel
theorem d_SD_doWhy_36 : decode b_SD_doWhy 36 = .ok (.bipush 81, 2) := by decide +kernel
theorem d_SD_doWhy_38 : decode b_SD_doWhy 38 = .ok (.invokevirtual 286, 3) := by decide +kernel
theorem d_SD_doWhy_41 : decode b_SD_doWhy 41 = .ok (.istore_n 1, 1) := by decide +kernel
theorem d_SD_doWhy_42 : decode b_SD_doWhy 42 = .ok (.iconst 0, 1) := by decide +kernel
theorem d_SD_doWhy_43 : decode b_SD_doWhy 43 = .ok (.istore_n 2, 1) := by decide +kernel
theorem d_SD_doWhy_44 : decode b_SD_doWhy 44 = .ok (.iload_n 2, 1) := by decide +kernel
theorem d_SD_doWhy_45 : decode b_SD_doWhy 45 = .ok (.iload_n 1, 1) := by decide +kernel
theorem d_SD_doWhy_46 : decode b_SD_doWhy 46 = .ok (.if_icmp .ge 37, 3) := by decide +kernel
theorem d_SD_doWhy_49 : decode b_SD_doWhy 49 = .ok (.aload_n 0, 1) := by decide +kernel
theorem d_SD_doWhy_50 : decode b_SD_doWhy 50 = .ok (.aload_n 0, 1) := by decide +kernel
theorem d_SD_doWhy_51 : decode b_SD_doWhy 51 = .ok (.getfield 58, 3) := by decide +kernel
theorem d_SD_doWhy_54 : decode b_SD_doWhy 54 = .ok (.iload_n 2, 1) := by decide +kernel
theorem d_SD_doWhy_55 : decode b_SD_doWhy 55 = .ok (.invokevirtual 307, 3) := by decide +kernel
theorem d_SD_doWhy_58 : decode b_SD_doWhy 58 = .ok (.aload_n 0, 1) := by decide +kernel
theorem d_SD_doWhy_59 : decode b_SD_doWhy 59 = .ok (.getfield 58, 3) := by decide +kernel
theorem d_SD_doWhy_62 : decode b_SD_doWhy 62 = .ok (.iload_n 2, 1) := by decide +kernel
theorem d_SD_doWhy_63 : decode b_SD_doWhy 63 = .ok (.invokevirtual 310, 3) := by decide +kernel
theorem d_SD_doWhy_66 : decode b_SD_doWhy 66 = .ok (.aload_n 0, 1) := by decide +kernel
theorem d_SD_doWhy_67 : decode b_SD_doWhy 67 = .ok (.getfield 58, 3) := by decide +kernel
theorem d_SD_doWhy_70 : decode b_SD_doWhy 70 = .ok (.iload_n 2, 1) := by decide +kernel
theorem d_SD_doWhy_71 : decode b_SD_doWhy 71 = .ok (.invokevirtual 313, 3) := by decide +kernel
theorem d_SD_doWhy_74 : decode b_SD_doWhy 74 = .ok (.invokevirtual 316, 3) := by decide +kernel
theorem d_SD_doWhy_77 : decode b_SD_doWhy 77 = .ok (.iinc 2 1, 3) := by decide +kernel
theorem d_SD_doWhy_80 : decode b_SD_doWhy 80 = .ok (.goto (-36), 3) := by decide +kernel
theorem d_SD_doWhy_83 : decode b_SD_doWhy 83 = .ok (.aload_n 0, 1) := by decide +kernel
theorem d_SD_doWhy_84 : decode b_SD_doWhy 84 = .ok (.getfield 30, 3) := by decide +kernel
theorem d_SD_doWhy_87 : decode b_SD_doWhy 87 = .ok (.invokevirtual 294, 3) := by decide +kernel
theorem d_SD_doWhy_90 : decode b_SD_doWhy 90 = .ok (.iconst 1, 1) := by decide +kernel
theorem d_SD_doWhy_91 : decode b_SD_doWhy 91 = .ok (.ireturn, 1) := by decide +kernel
abbrev b_SD_printWay : ByteArray := prog_1_method_21_code
def y_SD_printWay : MethodName := ⟨"SpellDesk", "printWay", "(LSpellDesk$Entry;II)V"⟩
set_option maxRecDepth 20000 in
theorem Y_SD_printWay : gh_Y y_SD_printWay b_SD_printWay 4 none 3 := ⟨gt_in (i := 1004) rfl rfl, gt_in (i := 1) (by decide +kernel) rfl, by decide +kernel, by decide +kernel, by decide +kernel⟩
theorem V_SD_printWay : Cond.instanceMethod y_SD_printWay ∈ gTbl ∧ Cond.selects y_SD_printWay.cls y_SD_printWay y_SD_printWay ∈ gTbl := ⟨(gt_in (i := 1003) (by decide +kernel) rfl), (gt_sel (n := 8) (i := 20) (by decide +kernel))⟩
theorem d_SD_printWay_0 : decode b_SD_printWay 0 = .ok (.aload_n 1, 1) := by decide +kernel
theorem d_SD_printWay_1 : decode b_SD_printWay 1 = .ok (.ifnonnull 4, 3) := by decide +kernel
theorem d_SD_printWay_4 : decode b_SD_printWay 4 = .ok (.return_, 1) := by decide +kernel
theorem d_SD_printWay_5 : decode b_SD_printWay 5 = .ok (.aload_n 0, 1) := by decide +kernel
theorem d_SD_printWay_6 : decode b_SD_printWay 6 = .ok (.getfield 30, 3) := by decide +kernel
theorem d_SD_printWay_9 : decode b_SD_printWay 9 = .ok (.invokevirtual 320, 3) := by decide +kernel
theorem d_SD_printWay_12 : decode b_SD_printWay 12 = .ok (.iload_n 2, 1) := by decide +kernel
theorem d_SD_printWay_13 : decode b_SD_printWay 13 = .ok (.ifCond .le 31, 3) := by decide +kernel
theorem d_SD_printWay_16 : decode b_SD_printWay 16 = .ok (.aload_n 0, 1) := by decide +kernel
theorem d_SD_printWay_17 : decode b_SD_printWay 17 = .ok (.getfield 30, 3) := by decide +kernel
theorem d_SD_printWay_20 : decode b_SD_printWay 20 = .ok (.ldc_w 323, 3) := by decide +kernel
theorem d_SD_printWay_23 : decode b_SD_printWay 23 = .ok (.invokevirtual 176, 3) := by decide +kernel
theorem d_SD_printWay_26 : decode b_SD_printWay 26 = .ok (.aload_n 0, 1) := by decide +kernel
theorem d_SD_printWay_27 : decode b_SD_printWay 27 = .ok (.getfield 30, 3) := by decide +kernel
theorem d_SD_printWay_30 : decode b_SD_printWay 30 = .ok (.iload_n 2, 1) := by decide +kernel
theorem d_SD_printWay_31 : decode b_SD_printWay 31 = .ok (.invokevirtual 182, 3) := by decide +kernel
theorem d_SD_printWay_34 : decode b_SD_printWay 34 = .ok (.aload_n 0, 1) := by decide +kernel
theorem d_SD_printWay_35 : decode b_SD_printWay 35 = .ok (.getfield 30, 3) := by decide +kernel
theorem d_SD_printWay_38 : decode b_SD_printWay 38 = .ok (.ldc_w 325, 3) := by decide +kernel
theorem d_SD_printWay_41 : decode b_SD_printWay 41 = .ok (.invokevirtual 176, 3) := by decide +kernel
theorem d_SD_printWay_44 : decode b_SD_printWay 44 = .ok (.aload_n 0, 1) := by decide +kernel
theorem d_SD_printWay_45 : decode b_SD_printWay 45 = .ok (.getfield 30, 3) := by decide +kernel
theorem d_SD_printWay_48 : decode b_SD_printWay 48 = .ok (.aload_n 1, 1) := by decide +kernel
theorem d_SD_printWay_49 : decode b_SD_printWay 49 = .ok (.getfield 304, 3) := by decide +kernel
theorem d_SD_printWay_52 : decode b_SD_printWay 52 = .ok (.iconst 0, 1) := by decide +kernel
theorem d_SD_printWay_53 : decode b_SD_printWay 53 = .ok (.aload_n 1, 1) := by decide +kernel
theorem d_SD_printWay_54 : decode b_SD_printWay 54 = .ok (.getfield 304, 3) := by decide +kernel
theorem d_SD_printWay_57 : decode b_SD_printWay 57 = .ok (.invokevirtual 75, 3) := by decide +kernel
theorem d_SD_printWay_60 : decode b_SD_printWay 60 = .ok (.invokevirtual 327, 3) := by decide +kernel
theorem d_SD_printWay_63 : decode b_SD_printWay 63 = .ok (.iload_n 3, 1) := by decide +kernel
theorem d_SD_printWay_64 : decode b_SD_printWay 64 = .ok (.ifCond .le 21, 3) := by decide +kernel
theorem d_SD_printWay_67 : decode b_SD_printWay 67 = .ok (.aload_n 0, 1) := by decide +kernel
theorem d_SD_printWay_68 : decode b_SD_printWay 68 = .ok (.getfield 30, 3) := by decide +kernel
theorem d_SD_printWay_71 : decode b_SD_printWay 71 = .ok (.ldc_w 330, 3) := by decide +kernel
theorem d_SD_printWay_74 : decode b_SD_printWay 74 = .ok (.invokevirtual 176, 3) := by decide +kernel
theorem d_SD_printWay_77 : decode b_SD_printWay 77 = .ok (.aload_n 0, 1) := by decide +kernel
theorem d_SD_printWay_78 : decode b_SD_printWay 78 = .ok (.getfield 30, 3) := by decide +kernel
theorem d_SD_printWay_81 : decode b_SD_printWay 81 = .ok (.iload_n 3, 1) := by decide +kernel
theorem d_SD_printWay_82 : decode b_SD_printWay 82 = .ok (.invokevirtual 182, 3) := by decide +kernel
theorem d_SD_printWay_85 : decode b_SD_printWay 85 = .ok (.return_, 1) := by decide +kernel
abbrev b_SD_doForms : ByteArray := prog_1_method_22_code
def y_SD_doForms : MethodName := ⟨"SpellDesk", "doForms", "()Z"⟩
set_option maxRecDepth 20000 in
theorem Y_SD_doForms : gh_Y y_SD_doForms b_SD_doForms 5 (some .boolean) 0 := ⟨gt_in (i := 1018) rfl rfl, gt_in (i := 1) (by decide +kernel) rfl, by decide +kernel, by decide +kernel, by decide +kernel⟩
theorem V_SD_doForms : Cond.instanceMethod y_SD_doForms ∈ gTbl ∧ Cond.selects y_SD_doForms.cls y_SD_doForms y_SD_doForms ∈ gTbl := ⟨(gt_in (i := 1017) (by decide +kernel) rfl), (gt_sel (n := 8) (i := 21) (by decide +kernel))⟩
theorem d_SD_doForms_0 : decode b_SD_doForms 0 = .ok (.aload_n 0, 1) := by decide +kernel
theorem d_SD_doForms_1 : decode b_SD_doForms 1 = .ok (.getfield 23, 3) := by decide +kernel
theorem d_SD_doForms_4 : decode b_SD_doForms 4 = .ok (.bipush 16, 2) := by decide +kernel
theorem d_SD_doForms_6 : decode b_SD_doForms 6 = .ok (.invokevirtual 228, 3) := by decide +kernel
theorem d_SD_doForms_9 : decode b_SD_doForms 9 = .ok (.ifCond .ne 5, 3) := by decide +kernel
theorem d_SD_doForms_12 : decode b_SD_doForms 12 = .ok (.iconst 0, 1) := by decide +kernel
theorem d_SD_doForms_13 : decode b_SD_doForms 13 = .ok (.ireturn, 1) := by decide +kernel
theorem d_SD_doForms_14 : decode b_SD_doForms 14 = .ok (.aload_n 0, 1) := by decide +kernel
theorem d_SD_doForms_15 : decode b_SD_doForms 15 = .ok (.getfield 37, 3) := by decide +kernel
theorem d_SD_doForms_18 : decode b_SD_doForms 18 = .ok (.aload_n 0, 1) := by decide +kernel
theorem d_SD_doForms_19 : decode b_SD_doForms 19 = .ok (.getfield 14, 3) := by decide +kernel
theorem d_SD_doForms_22 : decode b_SD_doForms 22 = .ok (.aload_n 0, 1) := by decide +kernel
theorem d_SD_doForms_23 : decode b_SD_doForms 23 = .ok (.getfield 23, 3) := by decide +kernel
theorem d_SD_doForms_26 : decode b_SD_doForms 26 = .ok (.invokevirtual 232, 3) := by decide +kernel
theorem d_SD_doForms_29 : decode b_SD_doForms 29 = .ok (.aload_n 0, 1) := by decide +kernel
theorem d_SD_doForms_30 : decode b_SD_doForms 30 = .ok (.getfield 23, 3) := by decide +kernel
theorem d_SD_doForms_33 : decode b_SD_doForms 33 = .ok (.invokevirtual 235, 3) := by decide +kernel
theorem d_SD_doForms_36 : decode b_SD_doForms 36 = .ok (.invokevirtual 200, 3) := by decide +kernel
theorem d_SD_doForms_39 : decode b_SD_doForms 39 = .ok (.istore_n 1, 1) := by decide +kernel
theorem d_SD_doForms_40 : decode b_SD_doForms 40 = .ok (.aload_n 0, 1) := by decide +kernel
theorem d_SD_doForms_41 : decode b_SD_doForms 41 = .ok (.getfield 37, 3) := by decide +kernel
theorem d_SD_doForms_44 : decode b_SD_doForms 44 = .ok (.iload_n 1, 1) := by decide +kernel
theorem d_SD_doForms_45 : decode b_SD_doForms 45 = .ok (.aload_n 0, 1) := by decide +kernel
theorem d_SD_doForms_46 : decode b_SD_doForms 46 = .ok (.getfield 14, 3) := by decide +kernel
theorem d_SD_doForms_49 : decode b_SD_doForms 49 = .ok (.aload_n 0, 1) := by decide +kernel
theorem d_SD_doForms_50 : decode b_SD_doForms 50 = .ok (.getfield 23, 3) := by decide +kernel
theorem d_SD_doForms_53 : decode b_SD_doForms 53 = .ok (.invokevirtual 232, 3) := by decide +kernel
theorem d_SD_doForms_56 : decode b_SD_doForms 56 = .ok (.aload_n 0, 1) := by decide +kernel
theorem d_SD_doForms_57 : decode b_SD_doForms 57 = .ok (.getfield 23, 3) := by decide +kernel
theorem d_SD_doForms_60 : decode b_SD_doForms 60 = .ok (.invokevirtual 235, 3) := by decide +kernel
theorem d_SD_doForms_63 : decode b_SD_doForms 63 = .ok (.invokevirtual 204, 3) := by decide +kernel
theorem d_SD_doForms_66 : decode b_SD_doForms 66 = .ok (.astore_n 2, 1) := by decide +kernel
theorem d_SD_doForms_67 : decode b_SD_doForms 67 = .ok (.aload_n 2, 1) := by decide +kernel
theorem d_SD_doForms_68 : decode b_SD_doForms 68 = .ok (.ifnull 53, 3) := by decide +kernel
theorem d_SD_doForms_71 : decode b_SD_doForms 71 = .ok (.aload_n 0, 1) := by decide +kernel
theorem d_SD_doForms_72 : decode b_SD_doForms 72 = .ok (.getfield 58, 3) := by decide +kernel
theorem d_SD_doForms_75 : decode b_SD_doForms 75 = .ok (.aload_n 2, 1) := by decide +kernel
theorem d_SD_doForms_76 : decode b_SD_doForms 76 = .ok (.invokevirtual 332, 3) := by decide +kernel
theorem d_SD_doForms_79 : decode b_SD_doForms 79 = .ok (.astore_n 3, 1) := by decide +kernel
theorem d_SD_doForms_80 : decode b_SD_doForms 80 = .ok (.iconst 0, 1) := by decide +kernel
theorem d_SD_doForms_81 : decode b_SD_doForms 81 = .ok (.istore 4, 2) := by decide +kernel
theorem d_SD_doForms_83 : decode b_SD_doForms 83 = .ok (.iload 4, 2) := by decide +kernel
theorem d_SD_doForms_85 : decode b_SD_doForms 85 = .ok (.aload_n 3, 1) := by decide +kernel
theorem d_SD_doForms_86 : decode b_SD_doForms 86 = .ok (.invokevirtual 279, 3) := by decide +kernel
theorem d_SD_doForms_89 : decode b_SD_doForms 89 = .ok (.if_icmp .ge 32, 3) := by decide +kernel
theorem d_SD_doForms_92 : decode b_SD_doForms 92 = .ok (.aload_n 0, 1) := by decide +kernel
theorem d_SD_doForms_93 : decode b_SD_doForms 93 = .ok (.getfield 30, 3) := by decide +kernel
theorem d_SD_doForms_96 : decode b_SD_doForms 96 = .ok (.aload_n 3, 1) := by decide +kernel
theorem d_SD_doForms_97 : decode b_SD_doForms 97 = .ok (.invokevirtual 336, 3) := by decide +kernel
theorem d_SD_doForms_100 : decode b_SD_doForms 100 = .ok (.aload_n 3, 1) := by decide +kernel
theorem d_SD_doForms_101 : decode b_SD_doForms 101 = .ok (.iload 4, 2) := by decide +kernel
theorem d_SD_doForms_103 : decode b_SD_doForms 103 = .ok (.invokevirtual 280, 3) := by decide +kernel
theorem d_SD_doForms_106 : decode b_SD_doForms 106 = .ok (.aload_n 3, 1) := by decide +kernel
theorem d_SD_doForms_107 : decode b_SD_doForms 107 = .ok (.iload 4, 2) := by decide +kernel
theorem d_SD_doForms_109 : decode b_SD_doForms 109 = .ok (.invokevirtual 283, 3) := by decide +kernel
theorem d_SD_doForms_112 : decode b_SD_doForms 112 = .ok (.invokevirtual 290, 3) := by decide +kernel
theorem d_SD_doForms_115 : decode b_SD_doForms 115 = .ok (.iinc 4 1, 3) := by decide +kernel
theorem d_SD_doForms_118 : decode b_SD_doForms 118 = .ok (.goto (-35), 3) := by decide +kernel
theorem d_SD_doForms_121 : decode b_SD_doForms 121 = .ok (.aload_n 0, 1) := by decide +kernel
theorem d_SD_doForms_122 : decode b_SD_doForms 122 = .ok (.getfield 30, 3) := by decide +kernel
theorem d_SD_doForms_125 : decode b_SD_doForms 125 = .ok (.invokevirtual 294, 3) := by decide +kernel
theorem d_SD_doForms_128 : decode b_SD_doForms 128 = .ok (.iconst 1, 1) := by decide +kernel
theorem d_SD_doForms_129 : decode b_SD_doForms 129 = .ok (.ireturn, 1) := by decide +kernel
abbrev b_SD_doCount : ByteArray := prog_1_method_23_code
def y_SD_doCount : MethodName := ⟨"SpellDesk", "doCount", "()Z"⟩
set_option maxRecDepth 20000 in
theorem Y_SD_doCount : gh_Y y_SD_doCount b_SD_doCount 1 (some .boolean) 0 := ⟨gt_in (i := 1037) rfl rfl, gt_in (i := 1) (by decide +kernel) rfl, by decide +kernel, by decide +kernel, by decide +kernel⟩
theorem V_SD_doCount : Cond.instanceMethod y_SD_doCount ∈ gTbl ∧ Cond.selects y_SD_doCount.cls y_SD_doCount y_SD_doCount ∈ gTbl := ⟨(gt_in (i := 1036) (by decide +kernel) rfl), (gt_sel (n := 8) (i := 23) (by decide +kernel))⟩
theorem d_SD_doCount_0 : decode b_SD_doCount 0 = .ok (.aload_n 0, 1) := by decide +kernel
theorem d_SD_doCount_1 : decode b_SD_doCount 1 = .ok (.getfield 23, 3) := by decide +kernel
theorem d_SD_doCount_4 : decode b_SD_doCount 4 = .ok (.invokevirtual 197, 3) := by decide +kernel
theorem d_SD_doCount_7 : decode b_SD_doCount 7 = .ok (.ifCond .ne 5, 3) := by decide +kernel
theorem d_SD_doCount_10 : decode b_SD_doCount 10 = .ok (.iconst 0, 1) := by decide +kernel
theorem d_SD_doCount_11 : decode b_SD_doCount 11 = .ok (.ireturn, 1) := by decide +kernel
theorem d_SD_doCount_12 : decode b_SD_doCount 12 = .ok (.aload_n 0, 1) := by decide +kernel
theorem d_SD_doCount_13 : decode b_SD_doCount 13 = .ok (.getfield 30, 3) := by decide +kernel
theorem d_SD_doCount_16 : decode b_SD_doCount 16 = .ok (.invokevirtual 320, 3) := by decide +kernel
theorem d_SD_doCount_19 : decode b_SD_doCount 19 = .ok (.aload_n 0, 1) := by decide +kernel
theorem d_SD_doCount_20 : decode b_SD_doCount 20 = .ok (.getfield 30, 3) := by decide +kernel
theorem d_SD_doCount_23 : decode b_SD_doCount 23 = .ok (.aload_n 0, 1) := by decide +kernel
theorem d_SD_doCount_24 : decode b_SD_doCount 24 = .ok (.getfield 37, 3) := by decide +kernel
theorem d_SD_doCount_27 : decode b_SD_doCount 27 = .ok (.invokevirtual 111, 3) := by decide +kernel
theorem d_SD_doCount_30 : decode b_SD_doCount 30 = .ok (.invokevirtual 182, 3) := by decide +kernel
theorem d_SD_doCount_33 : decode b_SD_doCount 33 = .ok (.aload_n 0, 1) := by decide +kernel
theorem d_SD_doCount_34 : decode b_SD_doCount 34 = .ok (.getfield 30, 3) := by decide +kernel
theorem d_SD_doCount_37 : decode b_SD_doCount 37 = .ok (.invokevirtual 320, 3) := by decide +kernel
theorem d_SD_doCount_40 : decode b_SD_doCount 40 = .ok (.aload_n 0, 1) := by decide +kernel
theorem d_SD_doCount_41 : decode b_SD_doCount 41 = .ok (.getfield 30, 3) := by decide +kernel
theorem d_SD_doCount_44 : decode b_SD_doCount 44 = .ok (.aload_n 0, 1) := by decide +kernel
theorem d_SD_doCount_45 : decode b_SD_doCount 45 = .ok (.getfield 46, 3) := by decide +kernel
theorem d_SD_doCount_48 : decode b_SD_doCount 48 = .ok (.invokevirtual 112, 3) := by decide +kernel
theorem d_SD_doCount_51 : decode b_SD_doCount 51 = .ok (.invokevirtual 182, 3) := by decide +kernel
theorem d_SD_doCount_54 : decode b_SD_doCount 54 = .ok (.aload_n 0, 1) := by decide +kernel
theorem d_SD_doCount_55 : decode b_SD_doCount 55 = .ok (.getfield 30, 3) := by decide +kernel
theorem d_SD_doCount_58 : decode b_SD_doCount 58 = .ok (.invokevirtual 320, 3) := by decide +kernel
theorem d_SD_doCount_61 : decode b_SD_doCount 61 = .ok (.aload_n 0, 1) := by decide +kernel
theorem d_SD_doCount_62 : decode b_SD_doCount 62 = .ok (.getfield 30, 3) := by decide +kernel
theorem d_SD_doCount_65 : decode b_SD_doCount 65 = .ok (.aload_n 0, 1) := by decide +kernel
theorem d_SD_doCount_66 : decode b_SD_doCount 66 = .ok (.getfield 50, 3) := by decide +kernel
theorem d_SD_doCount_69 : decode b_SD_doCount 69 = .ok (.invokevirtual 112, 3) := by decide +kernel
theorem d_SD_doCount_72 : decode b_SD_doCount 72 = .ok (.invokevirtual 182, 3) := by decide +kernel
theorem d_SD_doCount_75 : decode b_SD_doCount 75 = .ok (.iconst 1, 1) := by decide +kernel
theorem d_SD_doCount_76 : decode b_SD_doCount 76 = .ok (.ireturn, 1) := by decide +kernel
abbrev b_SD_doClear : ByteArray := prog_1_method_24_code
def y_SD_doClear : MethodName := ⟨"SpellDesk", "doClear", "()Z"⟩
set_option maxRecDepth 20000 in
theorem Y_SD_doClear : gh_Y y_SD_doClear b_SD_doClear 1 (some .boolean) 0 := ⟨gt_in (i := 1042) rfl rfl, gt_in (i := 1) (by decide +kernel) rfl, by decide +kernel, by decide +kernel, by decide +kernel⟩
theorem V_SD_doClear : Cond.instanceMethod y_SD_doClear ∈ gTbl ∧ Cond.selects y_SD_doClear.cls y_SD_doClear y_SD_doClear ∈ gTbl := ⟨(gt_in (i := 1041) (by decide +kernel) rfl), (gt_sel (n := 8) (i := 24) (by decide +kernel))⟩
theorem d_SD_doClear_0 : decode b_SD_doClear 0 = .ok (.aload_n 0, 1) := by decide +kernel
theorem d_SD_doClear_1 : decode b_SD_doClear 1 = .ok (.getfield 23, 3) := by decide +kernel
theorem d_SD_doClear_4 : decode b_SD_doClear 4 = .ok (.invokevirtual 197, 3) := by decide +kernel
theorem d_SD_doClear_7 : decode b_SD_doClear 7 = .ok (.ifCond .ne 5, 3) := by decide +kernel
theorem d_SD_doClear_10 : decode b_SD_doClear 10 = .ok (.iconst 0, 1) := by decide +kernel
theorem d_SD_doClear_11 : decode b_SD_doClear 11 = .ok (.ireturn, 1) := by decide +kernel
theorem d_SD_doClear_12 : decode b_SD_doClear 12 = .ok (.aload_n 0, 1) := by decide +kernel
theorem d_SD_doClear_13 : decode b_SD_doClear 13 = .ok (.getfield 37, 3) := by decide +kernel
theorem d_SD_doClear_16 : decode b_SD_doClear 16 = .ok (.invokevirtual 339, 3) := by decide +kernel
theorem d_SD_doClear_19 : decode b_SD_doClear 19 = .ok (.aload_n 0, 1) := by decide +kernel
theorem d_SD_doClear_20 : decode b_SD_doClear 20 = .ok (.getfield 46, 3) := by decide +kernel
theorem d_SD_doClear_23 : decode b_SD_doClear 23 = .ok (.invokevirtual 340, 3) := by decide +kernel
theorem d_SD_doClear_26 : decode b_SD_doClear 26 = .ok (.aload_n 0, 1) := by decide +kernel
theorem d_SD_doClear_27 : decode b_SD_doClear 27 = .ok (.getfield 50, 3) := by decide +kernel
theorem d_SD_doClear_30 : decode b_SD_doClear 30 = .ok (.invokevirtual 340, 3) := by decide +kernel
theorem d_SD_doClear_33 : decode b_SD_doClear 33 = .ok (.aload_n 0, 1) := by decide +kernel
theorem d_SD_doClear_34 : decode b_SD_doClear 34 = .ok (.getfield 30, 3) := by decide +kernel
theorem d_SD_doClear_37 : decode b_SD_doClear 37 = .ok (.ldc 226, 2) := by decide +kernel
theorem d_SD_doClear_39 : decode b_SD_doClear 39 = .ok (.invokevirtual 176, 3) := by decide +kernel
theorem d_SD_doClear_42 : decode b_SD_doClear 42 = .ok (.iconst 1, 1) := by decide +kernel
theorem d_SD_doClear_43 : decode b_SD_doClear 43 = .ok (.ireturn, 1) := by decide +kernel
abbrev b_SD_size : ByteArray := prog_1_method_5_code
def y_SD_size : MethodName := ⟨"SpellDesk", "size", "()I"⟩
set_option maxRecDepth 20000 in
theorem Y_SD_size : gh_Y y_SD_size b_SD_size 1 (some .int) 0 := ⟨gt_in (i := 1069) rfl rfl, gt_in (i := 1) (by decide +kernel) rfl, by decide +kernel, by decide +kernel, by decide +kernel⟩
theorem V_SD_size : Cond.instanceMethod y_SD_size ∈ gTbl ∧ Cond.selects y_SD_size.cls y_SD_size y_SD_size ∈ gTbl := ⟨(gt_in (i := 1067) (by decide +kernel) rfl), (gt_in (i := 1068) (by decide +kernel) rfl)⟩
theorem d_SD_size_0 : decode b_SD_size 0 = .ok (.aload_n 0, 1) := by decide +kernel
theorem d_SD_size_1 : decode b_SD_size 1 = .ok (.getfield 30, 3) := by decide +kernel
theorem d_SD_size_4 : decode b_SD_size 4 = .ok (.invokevirtual 100, 3) := by decide +kernel
theorem d_SD_size_7 : decode b_SD_size 7 = .ok (.ireturn, 1) := by decide +kernel
abbrev b_SD_lost : ByteArray := prog_1_method_7_code
def y_SD_lost : MethodName := ⟨"SpellDesk", "lost", "()I"⟩
set_option maxRecDepth 20000 in
theorem Y_SD_lost : gh_Y y_SD_lost b_SD_lost 1 (some .int) 0 := ⟨gt_in (i := 1078) rfl rfl, gt_in (i := 1) (by decide +kernel) rfl, by decide +kernel, by decide +kernel, by decide +kernel⟩
theorem V_SD_lost : Cond.instanceMethod y_SD_lost ∈ gTbl ∧ Cond.selects y_SD_lost.cls y_SD_lost y_SD_lost ∈ gTbl := ⟨(gt_in (i := 1076) (by decide +kernel) rfl), (gt_in (i := 1077) (by decide +kernel) rfl)⟩
theorem d_SD_lost_0 : decode b_SD_lost 0 = .ok (.aload_n 0, 1) := by decide +kernel
theorem d_SD_lost_1 : decode b_SD_lost 1 = .ok (.getfield 30, 3) := by decide +kernel
theorem d_SD_lost_4 : decode b_SD_lost 4 = .ok (.invokevirtual 107, 3) := by decide +kernel
theorem d_SD_lost_7 : decode b_SD_lost 7 = .ok (.ireturn, 1) := by decide +kernel
abbrev b_SD_wipe : ByteArray := prog_1_method_8_code
def y_SD_wipe : MethodName := ⟨"SpellDesk", "wipe", "()V"⟩
set_option maxRecDepth 20000 in
theorem Y_SD_wipe : gh_Y y_SD_wipe b_SD_wipe 1 none 0 := ⟨gt_in (i := 1086) rfl rfl, gt_in (i := 1) (by decide +kernel) rfl, by decide +kernel, by decide +kernel, by decide +kernel⟩
theorem V_SD_wipe : Cond.instanceMethod y_SD_wipe ∈ gTbl ∧ Cond.selects y_SD_wipe.cls y_SD_wipe y_SD_wipe ∈ gTbl := ⟨(gt_in (i := 1084) (by decide +kernel) rfl), (gt_in (i := 1085) (by decide +kernel) rfl)⟩
theorem d_SD_wipe_0 : decode b_SD_wipe 0 = .ok (.aload_n 0, 1) := by decide +kernel
theorem d_SD_wipe_1 : decode b_SD_wipe 1 = .ok (.getfield 30, 3) := by decide +kernel
theorem d_SD_wipe_4 : decode b_SD_wipe 4 = .ok (.invokevirtual 110, 3) := by decide +kernel
theorem d_SD_wipe_7 : decode b_SD_wipe 7 = .ok (.return_, 1) := by decide +kernel
abbrev b_SD_entries : ByteArray := prog_1_method_9_code
def y_SD_entries : MethodName := ⟨"SpellDesk", "entries", "()I"⟩
set_option maxRecDepth 20000 in
theorem Y_SD_entries : gh_Y y_SD_entries b_SD_entries 1 (some .int) 0 := ⟨gt_in (i := 1095) rfl rfl, gt_in (i := 1) (by decide +kernel) rfl, by decide +kernel, by decide +kernel, by decide +kernel⟩
theorem V_SD_entries : Cond.instanceMethod y_SD_entries ∈ gTbl ∧ Cond.selects y_SD_entries.cls y_SD_entries y_SD_entries ∈ gTbl := ⟨(gt_in (i := 1093) (by decide +kernel) rfl), (gt_in (i := 1094) (by decide +kernel) rfl)⟩
theorem d_SD_entries_0 : decode b_SD_entries 0 = .ok (.aload_n 0, 1) := by decide +kernel
theorem d_SD_entries_1 : decode b_SD_entries 1 = .ok (.getfield 37, 3) := by decide +kernel
theorem d_SD_entries_4 : decode b_SD_entries 4 = .ok (.invokevirtual 111, 3) := by decide +kernel
theorem d_SD_entries_7 : decode b_SD_entries 7 = .ok (.ireturn, 1) := by decide +kernel
abbrev b_SD_rules : ByteArray := prog_1_method_10_code
def y_SD_rules : MethodName := ⟨"SpellDesk", "rules", "(Z)I"⟩
set_option maxRecDepth 20000 in
theorem Y_SD_rules : gh_Y y_SD_rules b_SD_rules 2 (some .int) 1 := ⟨gt_in (i := 1099) rfl rfl, gt_in (i := 1) (by decide +kernel) rfl, by decide +kernel, by decide +kernel, by decide +kernel⟩
theorem V_SD_rules : Cond.instanceMethod y_SD_rules ∈ gTbl ∧ Cond.selects y_SD_rules.cls y_SD_rules y_SD_rules ∈ gTbl := ⟨(gt_in (i := 1097) (by decide +kernel) rfl), (gt_in (i := 1098) (by decide +kernel) rfl)⟩
theorem d_SD_rules_0 : decode b_SD_rules 0 = .ok (.iload_n 1, 1) := by decide +kernel
theorem d_SD_rules_1 : decode b_SD_rules 1 = .ok (.ifCond .eq 13, 3) := by decide +kernel
theorem d_SD_rules_4 : decode b_SD_rules 4 = .ok (.aload_n 0, 1) := by decide +kernel
theorem d_SD_rules_5 : decode b_SD_rules 5 = .ok (.getfield 46, 3) := by decide +kernel
theorem d_SD_rules_8 : decode b_SD_rules 8 = .ok (.invokevirtual 112, 3) := by decide +kernel
theorem d_SD_rules_11 : decode b_SD_rules 11 = .ok (.goto 10, 3) := by decide +kernel
theorem d_SD_rules_14 : decode b_SD_rules 14 = .ok (.aload_n 0, 1) := by decide +kernel
theorem d_SD_rules_15 : decode b_SD_rules 15 = .ok (.getfield 50, 3) := by decide +kernel
theorem d_SD_rules_18 : decode b_SD_rules 18 = .ok (.invokevirtual 112, 3) := by decide +kernel
theorem d_SD_rules_21 : decode b_SD_rules 21 = .ok (.ireturn, 1) := by decide +kernel
abbrev b_SD_type : ByteArray := prog_1_method_2_code
def y_SD_type : MethodName := ⟨"SpellDesk", "type", "(IIII)V"⟩
set_option maxRecDepth 20000 in
theorem Y_SD_type : gh_Y y_SD_type b_SD_type 6 none 4 := ⟨gt_in (i := 1107) rfl rfl, gt_in (i := 1) (by decide +kernel) rfl, by decide +kernel, by decide +kernel, by decide +kernel⟩
theorem V_SD_type : Cond.instanceMethod y_SD_type ∈ gTbl ∧ Cond.selects y_SD_type.cls y_SD_type y_SD_type ∈ gTbl := ⟨(gt_in (i := 1105) (by decide +kernel) rfl), (gt_in (i := 1106) (by decide +kernel) rfl)⟩
theorem d_SD_type_0 : decode b_SD_type 0 = .ok (.iload_n 1, 1) := by decide +kernel
theorem d_SD_type_1 : decode b_SD_type 1 = .ok (.invokestatic 71, 3) := by decide +kernel
theorem d_SD_type_4 : decode b_SD_type 4 = .ok (.iload_n 2, 1) := by decide +kernel
theorem d_SD_type_5 : decode b_SD_type 5 = .ok (.invokestatic 71, 3) := by decide +kernel
theorem d_SD_type_8 : decode b_SD_type 8 = .ok (.iadd, 1) := by decide +kernel
theorem d_SD_type_9 : decode b_SD_type 9 = .ok (.iload_n 3, 1) := by decide +kernel
theorem d_SD_type_10 : decode b_SD_type 10 = .ok (.invokestatic 71, 3) := by decide +kernel
theorem d_SD_type_13 : decode b_SD_type 13 = .ok (.iadd, 1) := by decide +kernel
theorem d_SD_type_14 : decode b_SD_type 14 = .ok (.iload 4, 2) := by decide +kernel
theorem d_SD_type_16 : decode b_SD_type 16 = .ok (.invokestatic 71, 3) := by decide +kernel
theorem d_SD_type_19 : decode b_SD_type 19 = .ok (.iadd, 1) := by decide +kernel
theorem d_SD_type_20 : decode b_SD_type 20 = .ok (.istore 5, 2) := by decide +kernel
theorem d_SD_type_22 : decode b_SD_type 22 = .ok (.aload_n 0, 1) := by decide +kernel
theorem d_SD_type_23 : decode b_SD_type 23 = .ok (.getfield 14, 3) := by decide +kernel
theorem d_SD_type_26 : decode b_SD_type 26 = .ok (.invokevirtual 75, 3) := by decide +kernel
theorem d_SD_type_29 : decode b_SD_type 29 = .ok (.iload 5, 2) := by decide +kernel
theorem d_SD_type_31 : decode b_SD_type 31 = .ok (.iadd, 1) := by decide +kernel
theorem d_SD_type_32 : decode b_SD_type 32 = .ok (.sipush 2048, 3) := by decide +kernel
theorem d_SD_type_35 : decode b_SD_type 35 = .ok (.if_icmp .le 13, 3) := by decide +kernel
theorem d_SD_type_38 : decode b_SD_type 38 = .ok (.new 79, 3) := by decide +kernel
theorem d_SD_type_41 : decode b_SD_type 41 = .ok (.dup, 1) := by decide +kernel
theorem d_SD_type_42 : decode b_SD_type 42 = .ok (.ldc 81, 2) := by decide +kernel
theorem d_SD_type_44 : decode b_SD_type 44 = .ok (.invokespecial 83, 3) := by decide +kernel
theorem d_SD_type_47 : decode b_SD_type 47 = .ok (.athrow, 1) := by decide +kernel
theorem d_SD_type_48 : decode b_SD_type 48 = .ok (.aload_n 0, 1) := by decide +kernel
theorem d_SD_type_49 : decode b_SD_type 49 = .ok (.iload_n 1, 1) := by decide +kernel
theorem d_SD_type_50 : decode b_SD_type 50 = .ok (.invokevirtual 86, 3) := by decide +kernel
theorem d_SD_type_53 : decode b_SD_type 53 = .ok (.aload_n 0, 1) := by decide +kernel
theorem d_SD_type_54 : decode b_SD_type 54 = .ok (.iload_n 2, 1) := by decide +kernel
theorem d_SD_type_55 : decode b_SD_type 55 = .ok (.invokevirtual 86, 3) := by decide +kernel
theorem d_SD_type_58 : decode b_SD_type 58 = .ok (.aload_n 0, 1) := by decide +kernel
theorem d_SD_type_59 : decode b_SD_type 59 = .ok (.iload_n 3, 1) := by decide +kernel
theorem d_SD_type_60 : decode b_SD_type 60 = .ok (.invokevirtual 86, 3) := by decide +kernel
theorem d_SD_type_63 : decode b_SD_type 63 = .ok (.aload_n 0, 1) := by decide +kernel
theorem d_SD_type_64 : decode b_SD_type 64 = .ok (.iload 4, 2) := by decide +kernel
theorem d_SD_type_66 : decode b_SD_type 66 = .ok (.invokevirtual 86, 3) := by decide +kernel
theorem d_SD_type_69 : decode b_SD_type 69 = .ok (.return_, 1) := by decide +kernel
abbrev b_SD_countCharacters : ByteArray := prog_1_method_11_code
def y_SD_countCharacters : MethodName := ⟨"SpellDesk", "countCharacters", "(I)I"⟩
set_option maxRecDepth 20000 in
theorem Y_SD_countCharacters : gh_Y y_SD_countCharacters b_SD_countCharacters 3 (some .int) 1 := ⟨gt_in (i := 1110) rfl rfl, gt_in (i := 1) (by decide +kernel) rfl, by decide +kernel, by decide +kernel, by decide +kernel⟩
theorem V_SD_countCharacters : Cond.static y_SD_countCharacters ∈ gTbl := (gt_in (i := 1109) (by decide +kernel) rfl)
theorem d_SD_countCharacters_0 : decode b_SD_countCharacters 0 = .ok (.iconst 0, 1) := by decide +kernel
theorem d_SD_countCharacters_1 : decode b_SD_countCharacters 1 = .ok (.istore_n 1, 1) := by decide +kernel
theorem d_SD_countCharacters_2 : decode b_SD_countCharacters 2 = .ok (.bipush 24, 2) := by decide +kernel
theorem d_SD_countCharacters_4 : decode b_SD_countCharacters 4 = .ok (.istore_n 2, 1) := by decide +kernel
theorem d_SD_countCharacters_5 : decode b_SD_countCharacters 5 = .ok (.iload_n 2, 1) := by decide +kernel
theorem d_SD_countCharacters_6 : decode b_SD_countCharacters 6 = .ok (.ifCond .lt 22, 3) := by decide +kernel
theorem d_SD_countCharacters_9 : decode b_SD_countCharacters 9 = .ok (.iload_n 0, 1) := by decide +kernel
theorem d_SD_countCharacters_10 : decode b_SD_countCharacters 10 = .ok (.iload_n 2, 1) := by decide +kernel
theorem d_SD_countCharacters_11 : decode b_SD_countCharacters 11 = .ok (.iushr, 1) := by decide +kernel
theorem d_SD_countCharacters_12 : decode b_SD_countCharacters 12 = .ok (.sipush 255, 3) := by decide +kernel
theorem d_SD_countCharacters_15 : decode b_SD_countCharacters 15 = .ok (.iand, 1) := by decide +kernel
theorem d_SD_countCharacters_16 : decode b_SD_countCharacters 16 = .ok (.ifCond .eq 6, 3) := by decide +kernel
theorem d_SD_countCharacters_19 : decode b_SD_countCharacters 19 = .ok (.iinc 1 1, 3) := by decide +kernel
theorem d_SD_countCharacters_22 : decode b_SD_countCharacters 22 = .ok (.iinc 2 (-8), 3) := by decide +kernel
theorem d_SD_countCharacters_25 : decode b_SD_countCharacters 25 = .ok (.goto (-20), 3) := by decide +kernel
theorem d_SD_countCharacters_28 : decode b_SD_countCharacters 28 = .ok (.iload_n 1, 1) := by decide +kernel
theorem d_SD_countCharacters_29 : decode b_SD_countCharacters 29 = .ok (.ireturn, 1) := by decide +kernel
abbrev b_SD_appendCharacters : ByteArray := prog_1_method_12_code
def y_SD_appendCharacters : MethodName := ⟨"SpellDesk", "appendCharacters", "(I)V"⟩
set_option maxRecDepth 20000 in
theorem Y_SD_appendCharacters : gh_Y y_SD_appendCharacters b_SD_appendCharacters 4 none 1 := ⟨gt_in (i := 1130) rfl rfl, gt_in (i := 1) (by decide +kernel) rfl, by decide +kernel, by decide +kernel, by decide +kernel⟩
theorem V_SD_appendCharacters : Cond.instanceMethod y_SD_appendCharacters ∈ gTbl ∧ Cond.selects y_SD_appendCharacters.cls y_SD_appendCharacters y_SD_appendCharacters ∈ gTbl := ⟨(gt_in (i := 1129) (by decide +kernel) rfl), (gt_sel (n := 8) (i := 25) (by decide +kernel))⟩
theorem d_SD_appendCharacters_0 : decode b_SD_appendCharacters 0 = .ok (.bipush 24, 2) := by decide +kernel
theorem d_SD_appendCharacters_2 : decode b_SD_appendCharacters 2 = .ok (.istore_n 2, 1) := by decide +kernel
theorem d_SD_appendCharacters_3 : decode b_SD_appendCharacters 3 = .ok (.iload_n 2, 1) := by decide +kernel
theorem d_SD_appendCharacters_4 : decode b_SD_appendCharacters 4 = .ok (.ifCond .lt 31, 3) := by decide +kernel
theorem d_SD_appendCharacters_7 : decode b_SD_appendCharacters 7 = .ok (.iload_n 1, 1) := by decide +kernel
theorem d_SD_appendCharacters_8 : decode b_SD_appendCharacters 8 = .ok (.iload_n 2, 1) := by decide +kernel
theorem d_SD_appendCharacters_9 : decode b_SD_appendCharacters 9 = .ok (.iushr, 1) := by decide +kernel
theorem d_SD_appendCharacters_10 : decode b_SD_appendCharacters 10 = .ok (.sipush 255, 3) := by decide +kernel
theorem d_SD_appendCharacters_13 : decode b_SD_appendCharacters 13 = .ok (.iand, 1) := by decide +kernel
theorem d_SD_appendCharacters_14 : decode b_SD_appendCharacters 14 = .ok (.istore_n 3, 1) := by decide +kernel
theorem d_SD_appendCharacters_15 : decode b_SD_appendCharacters 15 = .ok (.iload_n 3, 1) := by decide +kernel
theorem d_SD_appendCharacters_16 : decode b_SD_appendCharacters 16 = .ok (.ifCond .eq 13, 3) := by decide +kernel
theorem d_SD_appendCharacters_19 : decode b_SD_appendCharacters 19 = .ok (.aload_n 0, 1) := by decide +kernel
theorem d_SD_appendCharacters_20 : decode b_SD_appendCharacters 20 = .ok (.getfield 14, 3) := by decide +kernel
theorem d_SD_appendCharacters_23 : decode b_SD_appendCharacters 23 = .ok (.iload_n 3, 1) := by decide +kernel
theorem d_SD_appendCharacters_24 : decode b_SD_appendCharacters 24 = .ok (.i2c, 1) := by decide +kernel
theorem d_SD_appendCharacters_25 : decode b_SD_appendCharacters 25 = .ok (.invokevirtual 113, 3) := by decide +kernel
theorem d_SD_appendCharacters_28 : decode b_SD_appendCharacters 28 = .ok (.pop, 1) := by decide +kernel
theorem d_SD_appendCharacters_29 : decode b_SD_appendCharacters 29 = .ok (.iinc 2 (-8), 3) := by decide +kernel
theorem d_SD_appendCharacters_32 : decode b_SD_appendCharacters 32 = .ok (.goto (-29), 3) := by decide +kernel
theorem d_SD_appendCharacters_35 : decode b_SD_appendCharacters 35 = .ok (.return_, 1) := by decide +kernel
abbrev b_SD_output : ByteArray := prog_1_method_6_code
def y_SD_output : MethodName := ⟨"SpellDesk", "output", "(I)I"⟩
set_option maxRecDepth 20000 in
theorem Y_SD_output : gh_Y y_SD_output b_SD_output 2 (some .int) 1 := ⟨gt_in (i := 1139) rfl rfl, gt_in (i := 1) (by decide +kernel) rfl, by decide +kernel, by decide +kernel, by decide +kernel⟩
theorem V_SD_output : Cond.instanceMethod y_SD_output ∈ gTbl ∧ Cond.selects y_SD_output.cls y_SD_output y_SD_output ∈ gTbl := ⟨(gt_in (i := 1137) (by decide +kernel) rfl), (gt_in (i := 1138) (by decide +kernel) rfl)⟩
theorem d_SD_output_0 : decode b_SD_output 0 = .ok (.iload_n 1, 1) := by decide +kernel
theorem d_SD_output_1 : decode b_SD_output 1 = .ok (.ifCond .lt 14, 3) := by decide +kernel
theorem d_SD_output_4 : decode b_SD_output 4 = .ok (.iload_n 1, 1) := by decide +kernel
theorem d_SD_output_5 : decode b_SD_output 5 = .ok (.aload_n 0, 1) := by decide +kernel
theorem d_SD_output_6 : decode b_SD_output 6 = .ok (.getfield 30, 3) := by decide +kernel
theorem d_SD_output_9 : decode b_SD_output 9 = .ok (.invokevirtual 100, 3) := by decide +kernel
theorem d_SD_output_12 : decode b_SD_output 12 = .ok (.if_icmp .lt 13, 3) := by decide +kernel
theorem d_SD_output_15 : decode b_SD_output 15 = .ok (.new 101, 3) := by decide +kernel
theorem d_SD_output_18 : decode b_SD_output 18 = .ok (.dup, 1) := by decide +kernel
theorem d_SD_output_19 : decode b_SD_output 19 = .ok (.ldc 103, 2) := by decide +kernel
theorem d_SD_output_21 : decode b_SD_output 21 = .ok (.invokespecial 105, 3) := by decide +kernel
theorem d_SD_output_24 : decode b_SD_output 24 = .ok (.athrow, 1) := by decide +kernel
theorem d_SD_output_25 : decode b_SD_output 25 = .ok (.aload_n 0, 1) := by decide +kernel
theorem d_SD_output_26 : decode b_SD_output 26 = .ok (.getfield 30, 3) := by decide +kernel
theorem d_SD_output_29 : decode b_SD_output 29 = .ok (.iload_n 1, 1) := by decide +kernel
theorem d_SD_output_30 : decode b_SD_output 30 = .ok (.invokevirtual 106, 3) := by decide +kernel
theorem d_SD_output_33 : decode b_SD_output 33 = .ok (.ireturn, 1) := by decide +kernel
theorem kf_SD_14 : Cond.fieldLink "SpellDesk" 14 "SpellDesk" "text" "LSpellDesk$Letters;" ∈ gTbl := (gt_in (i := 239) (by decide +kernel) rfl)
theorem kf_SD_23 : Cond.fieldLink "SpellDesk" 23 "SpellDesk" "line" "LSpellDesk$Line;" ∈ gTbl := (gt_in (i := 240) (by decide +kernel) rfl)
theorem kf_SD_30 : Cond.fieldLink "SpellDesk" 30 "SpellDesk" "printer" "LSpellDesk$Printer;" ∈ gTbl := (gt_in (i := 241) (by decide +kernel) rfl)
theorem kf_SD_37 : Cond.fieldLink "SpellDesk" 37 "SpellDesk" "dictionary" "LSpellDesk$Dictionary;" ∈ gTbl := (gt_in (i := 242) (by decide +kernel) rfl)
theorem kf_SD_46 : Cond.fieldLink "SpellDesk" 46 "SpellDesk" "prefixes" "LSpellDesk$RuleList;" ∈ gTbl := (gt_in (i := 243) (by decide +kernel) rfl)
theorem kf_SD_50 : Cond.fieldLink "SpellDesk" 50 "SpellDesk" "suffixes" "LSpellDesk$RuleList;" ∈ gTbl := (gt_in (i := 244) (by decide +kernel) rfl)
theorem kf_SD_58 : Cond.fieldLink "SpellDesk" 58 "SpellDesk" "speller" "LSpellDesk$Speller;" ∈ gTbl := (gt_in (i := 245) (by decide +kernel) rfl)
theorem kf_SD_67 : Cond.fieldLink "SpellDesk" 67 "SpellDesk" "asked" "LSpellDesk$WordList;" ∈ gTbl := (gt_in (i := 246) (by decide +kernel) rfl)
theorem kf_SD_207 : Cond.fieldLink "SpellDesk" 207 "SpellDesk$Entry" "flags" "I" ∈ gTbl := (gt_in (i := 448) (by decide +kernel) rfl)
theorem kf_SD_304 : Cond.fieldLink "SpellDesk" 304 "SpellDesk$Entry" "word" "LSpellDesk$Letters;" ∈ gTbl := (gt_in (i := 445) (by decide +kernel) rfl)
theorem kc_SD_9 : Cond.classLink "SpellDesk" 9 "SpellDesk$Letters" ∈ gTbl := (gt_in (i := 40) (by decide +kernel) rfl)
theorem kc_SD_18 : Cond.classLink "SpellDesk" 18 "SpellDesk$Line" ∈ gTbl := (gt_in (i := 57) (by decide +kernel) rfl)
theorem kc_SD_27 : Cond.classLink "SpellDesk" 27 "SpellDesk$Printer" ∈ gTbl := (gt_in (i := 85) (by decide +kernel) rfl)
theorem kc_SD_34 : Cond.classLink "SpellDesk" 34 "SpellDesk$Dictionary" ∈ gTbl := (gt_in (i := 103) (by decide +kernel) rfl)
theorem kc_SD_41 : Cond.classLink "SpellDesk" 41 "SpellDesk$RuleList" ∈ gTbl := (gt_in (i := 139) (by decide +kernel) rfl)
theorem kc_SD_53 : Cond.classLink "SpellDesk" 53 "SpellDesk$Speller" ∈ gTbl := (gt_in (i := 183) (by decide +kernel) rfl)
theorem kc_SD_62 : Cond.classLink "SpellDesk" 62 "SpellDesk$WordList" ∈ gTbl := (gt_in (i := 237) (by decide +kernel) rfl)
theorem kc_SD_79 : Cond.classLink "SpellDesk" 79 "java/lang/IllegalStateException" ∈ gTbl := (gt_in (i := 1111) (by decide +kernel) rfl)
theorem kc_SD_101 : Cond.classLink "SpellDesk" 101 "java/lang/IndexOutOfBoundsException" ∈ gTbl := (gt_in (i := 1140) (by decide +kernel) rfl)
theorem kc_SD_208 : Cond.classLink "SpellDesk" 208 "SpellDesk$Entry" ∈ gTbl := (gt_in (i := 427) (by decide +kernel) rfl)
theorem kc_SD_264 : Cond.classLink "SpellDesk" 264 "SpellDesk$Rule" ∈ gTbl := (gt_in (i := 855) (by decide +kernel) rfl)
theorem km_SD_3 : Cond.methodLink "SpellDesk" 3 ⟨"java/lang/Object", "<init>", "()V"⟩ ∈ gTbl := (gt_in (i := 37) (by decide +kernel) rfl)
theorem km_SD_11 : Cond.methodLink "SpellDesk" 11 ⟨"SpellDesk$Letters", "<init>", "(I)V"⟩ ∈ gTbl := (gt_in (i := 42) (by decide +kernel) rfl)
theorem km_SD_20 : Cond.methodLink "SpellDesk" 20 ⟨"SpellDesk$Line", "<init>", "(LSpellDesk$Letters;)V"⟩ ∈ gTbl := (gt_in (i := 59) (by decide +kernel) rfl)
theorem km_SD_29 : Cond.methodLink "SpellDesk" 29 ⟨"SpellDesk$Printer", "<init>", "()V"⟩ ∈ gTbl := (gt_in (i := 87) (by decide +kernel) rfl)
theorem km_SD_36 : Cond.methodLink "SpellDesk" 36 ⟨"SpellDesk$Dictionary", "<init>", "()V"⟩ ∈ gTbl := (gt_in (i := 105) (by decide +kernel) rfl)
theorem km_SD_43 : Cond.methodLink "SpellDesk" 43 ⟨"SpellDesk$RuleList", "<init>", "(Z)V"⟩ ∈ gTbl := (gt_in (i := 141) (by decide +kernel) rfl)
theorem km_SD_55 : Cond.methodLink "SpellDesk" 55 ⟨"SpellDesk$Speller", "<init>", "(LSpellDesk$Dictionary;LSpellDesk$RuleList;LSpellDesk$RuleList;)V"⟩ ∈ gTbl := (gt_in (i := 185) (by decide +kernel) rfl)
theorem km_SD_64 : Cond.methodLink "SpellDesk" 64 ⟨"SpellDesk$WordList", "<init>", "(LSpellDesk$Letters;I)V"⟩ ∈ gTbl := (gt_in (i := 238) (by decide +kernel) rfl)
theorem km_SD_71 : Cond.methodLink "SpellDesk" 71 ⟨"SpellDesk", "countCharacters", "(I)I"⟩ ∈ gTbl := (gt_in (i := 1108) (by decide +kernel) rfl)
theorem km_SD_75 : Cond.methodLink "SpellDesk" 75 ⟨"SpellDesk$Letters", "count", "()I"⟩ ∈ gTbl := (gt_in (i := 268) (by decide +kernel) rfl)
theorem km_SD_83 : Cond.methodLink "SpellDesk" 83 ⟨"java/lang/IllegalStateException", "<init>", "(Ljava/lang/String;)V"⟩ ∈ gTbl := (gt_in (i := 1121) (by decide +kernel) rfl)
theorem km_SD_86 : Cond.methodLink "SpellDesk" 86 ⟨"SpellDesk", "appendCharacters", "(I)V"⟩ ∈ gTbl := (gt_in (i := 1127) (by decide +kernel) rfl)
theorem km_SD_89 : Cond.methodLink "SpellDesk" 89 ⟨"SpellDesk$Letters", "at", "(I)C"⟩ ∈ gTbl := (gt_in (i := 276) (by decide +kernel) rfl)
theorem km_SD_93 : Cond.methodLink "SpellDesk" 93 ⟨"SpellDesk", "doLine", "(II)V"⟩ ∈ gTbl := (gt_in (i := 280) (by decide +kernel) rfl)
theorem km_SD_97 : Cond.methodLink "SpellDesk" 97 ⟨"SpellDesk$Letters", "clear", "()V"⟩ ∈ gTbl := (gt_in (i := 1065) (by decide +kernel) rfl)
theorem km_SD_100 : Cond.methodLink "SpellDesk" 100 ⟨"SpellDesk$Printer", "count", "()I"⟩ ∈ gTbl := (gt_in (i := 1070) (by decide +kernel) rfl)
theorem km_SD_105 : Cond.methodLink "SpellDesk" 105 ⟨"java/lang/IndexOutOfBoundsException", "<init>", "(Ljava/lang/String;)V"⟩ ∈ gTbl := (gt_in (i := 1142) (by decide +kernel) rfl)
theorem km_SD_106 : Cond.methodLink "SpellDesk" 106 ⟨"SpellDesk$Printer", "at", "(I)C"⟩ ∈ gTbl := (gt_in (i := 1143) (by decide +kernel) rfl)
theorem km_SD_107 : Cond.methodLink "SpellDesk" 107 ⟨"SpellDesk$Printer", "lostCount", "()I"⟩ ∈ gTbl := (gt_in (i := 1079) (by decide +kernel) rfl)
theorem km_SD_110 : Cond.methodLink "SpellDesk" 110 ⟨"SpellDesk$Printer", "clear", "()V"⟩ ∈ gTbl := (gt_in (i := 1087) (by decide +kernel) rfl)
theorem km_SD_111 : Cond.methodLink "SpellDesk" 111 ⟨"SpellDesk$Dictionary", "count", "()I"⟩ ∈ gTbl := (gt_in (i := 422) (by decide +kernel) rfl)
theorem km_SD_112 : Cond.methodLink "SpellDesk" 112 ⟨"SpellDesk$RuleList", "count", "()I"⟩ ∈ gTbl := (gt_in (i := 857) (by decide +kernel) rfl)
theorem km_SD_113 : Cond.methodLink "SpellDesk" 113 ⟨"SpellDesk$Letters", "append", "(C)Z"⟩ ∈ gTbl := (gt_in (i := 1131) (by decide +kernel) rfl)
theorem km_SD_117 : Cond.methodLink "SpellDesk" 117 ⟨"SpellDesk$Line", "open", "(II)V"⟩ ∈ gTbl := (gt_in (i := 284) (by decide +kernel) rfl)
theorem km_SD_120 : Cond.methodLink "SpellDesk" 120 ⟨"SpellDesk$Line", "next", "()Z"⟩ ∈ gTbl := (gt_in (i := 288) (by decide +kernel) rfl)
theorem km_SD_126 : Cond.methodLink "SpellDesk" 126 ⟨"SpellDesk$Line", "is", "(Ljava/lang/String;)Z"⟩ ∈ gTbl := (gt_in (i := 294) (by decide +kernel) rfl)
theorem km_SD_130 : Cond.methodLink "SpellDesk" 130 ⟨"SpellDesk", "doAdd", "()Z"⟩ ∈ gTbl := (gt_in (i := 346) (by decide +kernel) rfl)
theorem km_SD_135 : Cond.methodLink "SpellDesk" 135 ⟨"SpellDesk", "doDrop", "()Z"⟩ ∈ gTbl := (gt_in (i := 792) (by decide +kernel) rfl)
theorem km_SD_140 : Cond.methodLink "SpellDesk" 140 ⟨"SpellDesk", "doRule", "(LSpellDesk$RuleList;)Z"⟩ ∈ gTbl := (gt_in (i := 828) (by decide +kernel) rfl)
theorem km_SD_148 : Cond.methodLink "SpellDesk" 148 ⟨"SpellDesk", "doCheck", "()Z"⟩ ∈ gTbl := (gt_in (i := 876) (by decide +kernel) rfl)
theorem km_SD_153 : Cond.methodLink "SpellDesk" 153 ⟨"SpellDesk", "doLook", "()Z"⟩ ∈ gTbl := (gt_in (i := 968) (by decide +kernel) rfl)
theorem km_SD_158 : Cond.methodLink "SpellDesk" 158 ⟨"SpellDesk", "doWhy", "()Z"⟩ ∈ gTbl := (gt_in (i := 980) (by decide +kernel) rfl)
theorem km_SD_163 : Cond.methodLink "SpellDesk" 163 ⟨"SpellDesk", "doForms", "()Z"⟩ ∈ gTbl := (gt_in (i := 1015) (by decide +kernel) rfl)
theorem km_SD_167 : Cond.methodLink "SpellDesk" 167 ⟨"SpellDesk", "doCount", "()Z"⟩ ∈ gTbl := (gt_in (i := 1034) (by decide +kernel) rfl)
theorem km_SD_171 : Cond.methodLink "SpellDesk" 171 ⟨"SpellDesk", "doClear", "()Z"⟩ ∈ gTbl := (gt_in (i := 1039) (by decide +kernel) rfl)
theorem km_SD_176 : Cond.methodLink "SpellDesk" 176 ⟨"SpellDesk$Printer", "printText", "(Ljava/lang/String;)V"⟩ ∈ gTbl := (gt_in (i := 408) (by decide +kernel) rfl)
theorem km_SD_179 : Cond.methodLink "SpellDesk" 179 ⟨"SpellDesk$Line", "place", "()I"⟩ ∈ gTbl := (gt_in (i := 1057) (by decide +kernel) rfl)
theorem km_SD_182 : Cond.methodLink "SpellDesk" 182 ⟨"SpellDesk$Printer", "printNumber", "(I)V"⟩ ∈ gTbl := (gt_in (i := 1007) (by decide +kernel) rfl)
theorem km_SD_185 : Cond.methodLink "SpellDesk" 185 ⟨"SpellDesk$Printer", "endLine", "()V"⟩ ∈ gTbl := (gt_in (i := 1061) (by decide +kernel) rfl)
theorem km_SD_188 : Cond.methodLink "SpellDesk" 188 ⟨"SpellDesk$Line", "start", "()I"⟩ ∈ gTbl := (gt_in (i := 350) (by decide +kernel) rfl)
theorem km_SD_191 : Cond.methodLink "SpellDesk" 191 ⟨"SpellDesk$Line", "leadingLetters", "()I"⟩ ∈ gTbl := (gt_in (i := 354) (by decide +kernel) rfl)
theorem km_SD_194 : Cond.methodLink "SpellDesk" 194 ⟨"SpellDesk$Line", "flagsBehind", "(I)I"⟩ ∈ gTbl := (gt_in (i := 361) (by decide +kernel) rfl)
theorem km_SD_197 : Cond.methodLink "SpellDesk" 197 ⟨"SpellDesk$Line", "ends", "()Z"⟩ ∈ gTbl := (gt_in (i := 368) (by decide +kernel) rfl)
theorem km_SD_200 : Cond.methodLink "SpellDesk" 200 ⟨"SpellDesk$Dictionary", "rankOf", "(LSpellDesk$Letters;II)I"⟩ ∈ gTbl := (gt_in (i := 373) (by decide +kernel) rfl)
theorem km_SD_204 : Cond.methodLink "SpellDesk" 204 ⟨"SpellDesk$Dictionary", "at", "(ILSpellDesk$Letters;II)LSpellDesk$Entry;"⟩ ∈ gTbl := (gt_in (i := 399) (by decide +kernel) rfl)
theorem km_SD_217 : Cond.methodLink "SpellDesk" 217 ⟨"SpellDesk$Letters", "copy", "(II)LSpellDesk$Letters;"⟩ ∈ gTbl := (gt_in (i := 429) (by decide +kernel) rfl)
theorem km_SD_221 : Cond.methodLink "SpellDesk" 221 ⟨"SpellDesk$Entry", "<init>", "(LSpellDesk$Letters;I)V"⟩ ∈ gTbl := (gt_in (i := 437) (by decide +kernel) rfl)
theorem km_SD_222 : Cond.methodLink "SpellDesk" 222 ⟨"SpellDesk$Dictionary", "insert", "(ILSpellDesk$Entry;)V"⟩ ∈ gTbl := (gt_in (i := 455) (by decide +kernel) rfl)
theorem km_SD_228 : Cond.methodLink "SpellDesk" 228 ⟨"SpellDesk$Line", "nextIsOnlyWord", "(I)Z"⟩ ∈ gTbl := (gt_in (i := 796) (by decide +kernel) rfl)
theorem km_SD_232 : Cond.methodLink "SpellDesk" 232 ⟨"SpellDesk$Line", "wordFrom", "()I"⟩ ∈ gTbl := (gt_in (i := 806) (by decide +kernel) rfl)
theorem km_SD_235 : Cond.methodLink "SpellDesk" 235 ⟨"SpellDesk$Line", "wordLength", "()I"⟩ ∈ gTbl := (gt_in (i := 810) (by decide +kernel) rfl)
theorem km_SD_240 : Cond.methodLink "SpellDesk" 240 ⟨"SpellDesk$Dictionary", "remove", "(I)V"⟩ ∈ gTbl := (gt_in (i := 815) (by decide +kernel) rfl)
theorem km_SD_243 : Cond.methodLink "SpellDesk" 243 ⟨"SpellDesk$RuleList", "atFront", "()Z"⟩ ∈ gTbl := (gt_in (i := 832) (by decide +kernel) rfl)
theorem km_SD_246 : Cond.methodLink "SpellDesk" 246 ⟨"SpellDesk", "readRule", "(Z)LSpellDesk$Rule;"⟩ ∈ gTbl := (gt_in (i := 836) (by decide +kernel) rfl)
theorem km_SD_250 : Cond.methodLink "SpellDesk" 250 ⟨"SpellDesk$RuleList", "append", "(LSpellDesk$Rule;)V"⟩ ∈ gTbl := (gt_in (i := 862) (by decide +kernel) rfl)
theorem km_SD_253 : Cond.methodLink "SpellDesk" 253 ⟨"SpellDesk$Line", "flag", "()I"⟩ ∈ gTbl := (gt_in (i := 840) (by decide +kernel) rfl)
theorem km_SD_256 : Cond.methodLink "SpellDesk" 256 ⟨"SpellDesk$Line", "nextIsPart", "(Z)Z"⟩ ∈ gTbl := (gt_in (i := 844) (by decide +kernel) rfl)
theorem km_SD_260 : Cond.methodLink "SpellDesk" 260 ⟨"SpellDesk$Line", "part", "()LSpellDesk$Letters;"⟩ ∈ gTbl := (gt_in (i := 850) (by decide +kernel) rfl)
theorem km_SD_266 : Cond.methodLink "SpellDesk" 266 ⟨"SpellDesk$Rule", "<init>", "(ZILSpellDesk$Letters;LSpellDesk$Letters;LSpellDesk$Letters;)V"⟩ ∈ gTbl := (gt_in (i := 856) (by decide +kernel) rfl)
theorem km_SD_269 : Cond.methodLink "SpellDesk" 269 ⟨"SpellDesk$WordList", "clear", "()V"⟩ ∈ gTbl := (gt_in (i := 880) (by decide +kernel) rfl)
theorem km_SD_270 : Cond.methodLink "SpellDesk" 270 ⟨"SpellDesk$Line", "nextIsWord", "(I)Z"⟩ ∈ gTbl := (gt_in (i := 884) (by decide +kernel) rfl)
theorem km_SD_273 : Cond.methodLink "SpellDesk" 273 ⟨"SpellDesk$WordList", "put", "(II)V"⟩ ∈ gTbl := (gt_in (i := 888) (by decide +kernel) rfl)
theorem km_SD_276 : Cond.methodLink "SpellDesk" 276 ⟨"SpellDesk$Line", "isWord", "(I)Z"⟩ ∈ gTbl := (gt_in (i := 894) (by decide +kernel) rfl)
theorem km_SD_279 : Cond.methodLink "SpellDesk" 279 ⟨"SpellDesk$WordList", "count", "()I"⟩ ∈ gTbl := (gt_in (i := 895) (by decide +kernel) rfl)
theorem km_SD_280 : Cond.methodLink "SpellDesk" 280 ⟨"SpellDesk$WordList", "from", "(I)I"⟩ ∈ gTbl := (gt_in (i := 899) (by decide +kernel) rfl)
theorem km_SD_283 : Cond.methodLink "SpellDesk" 283 ⟨"SpellDesk$WordList", "length", "(I)I"⟩ ∈ gTbl := (gt_in (i := 903) (by decide +kernel) rfl)
theorem km_SD_286 : Cond.methodLink "SpellDesk" 286 ⟨"SpellDesk$Speller", "findWays", "(LSpellDesk$Letters;III)I"⟩ ∈ gTbl := (gt_in (i := 907) (by decide +kernel) rfl)
theorem km_SD_290 : Cond.methodLink "SpellDesk" 290 ⟨"SpellDesk$Printer", "printItem", "(LSpellDesk$Letters;II)V"⟩ ∈ gTbl := (gt_in (i := 950) (by decide +kernel) rfl)
theorem km_SD_294 : Cond.methodLink "SpellDesk" 294 ⟨"SpellDesk$Printer", "endItems", "()V"⟩ ∈ gTbl := (gt_in (i := 963) (by decide +kernel) rfl)
theorem km_SD_297 : Cond.methodLink "SpellDesk" 297 ⟨"SpellDesk$Dictionary", "at", "(I)LSpellDesk$Entry;"⟩ ∈ gTbl := (gt_in (i := 972) (by decide +kernel) rfl)
theorem km_SD_300 : Cond.methodLink "SpellDesk" 300 ⟨"SpellDesk$Entry", "beginsWith", "(LSpellDesk$Letters;II)Z"⟩ ∈ gTbl := (gt_in (i := 973) (by decide +kernel) rfl)
theorem km_SD_307 : Cond.methodLink "SpellDesk" 307 ⟨"SpellDesk$Speller", "entryOfWay", "(I)LSpellDesk$Entry;"⟩ ∈ gTbl := (gt_in (i := 984) (by decide +kernel) rfl)
theorem km_SD_310 : Cond.methodLink "SpellDesk" 310 ⟨"SpellDesk$Speller", "prefixOfWay", "(I)I"⟩ ∈ gTbl := (gt_in (i := 993) (by decide +kernel) rfl)
theorem km_SD_313 : Cond.methodLink "SpellDesk" 313 ⟨"SpellDesk$Speller", "suffixOfWay", "(I)I"⟩ ∈ gTbl := (gt_in (i := 997) (by decide +kernel) rfl)
theorem km_SD_316 : Cond.methodLink "SpellDesk" 316 ⟨"SpellDesk", "printWay", "(LSpellDesk$Entry;II)V"⟩ ∈ gTbl := (gt_in (i := 1001) (by decide +kernel) rfl)
theorem km_SD_320 : Cond.methodLink "SpellDesk" 320 ⟨"SpellDesk$Printer", "startItem", "()V"⟩ ∈ gTbl := (gt_in (i := 1005) (by decide +kernel) rfl)
theorem km_SD_327 : Cond.methodLink "SpellDesk" 327 ⟨"SpellDesk$Printer", "printLetters", "(LSpellDesk$Letters;II)V"⟩ ∈ gTbl := (gt_in (i := 1012) (by decide +kernel) rfl)
theorem km_SD_332 : Cond.methodLink "SpellDesk" 332 ⟨"SpellDesk$Speller", "formsOf", "(LSpellDesk$Entry;)LSpellDesk$WordList;"⟩ ∈ gTbl := (gt_in (i := 1019) (by decide +kernel) rfl)
theorem km_SD_336 : Cond.methodLink "SpellDesk" 336 ⟨"SpellDesk$WordList", "row", "()LSpellDesk$Letters;"⟩ ∈ gTbl := (gt_in (i := 1029) (by decide +kernel) rfl)
theorem km_SD_339 : Cond.methodLink "SpellDesk" 339 ⟨"SpellDesk$Dictionary", "clear", "()V"⟩ ∈ gTbl := (gt_in (i := 1043) (by decide +kernel) rfl)
theorem km_SD_340 : Cond.methodLink "SpellDesk" 340 ⟨"SpellDesk$RuleList", "clear", "()V"⟩ ∈ gTbl := (gt_in (i := 1051) (by decide +kernel) rfl)
end
section
/-! THE DESK: its own object, the memory of its speller, the asked words; the dictionary, the rules, the text -/
def SDT : List Nat := [0, 1, 2, 3, 4, 5, 6, 7, 8, 9, 10, 11, 12, 13, 14, 15, 20, 21, 22, 23, 24, 25, 30, 31, 32, 33, 34, 35, 36, 37, 38, 40, 41, 42, 50, 51, 52, 60, 61, 62]
def SDo (g : GH) (A : Nat → Nat) : Prop := g (A 0) = some (0, .inr (0, [.ref (A 1), .ref (A 3), .ref (A 4), .ref (A 7), .ref (A 10), .ref (A 20), .ref (A 30), .ref (A 40)]))
def SDm (G : GG) (g : GH) (A : Nat → Nat) : Prop := SDo g A ∧ (∃ ws, WyI G g g A ws) ∧ (∃ fx fp, FmI G g A fx fp) ∧ ∃ ps, Wl G g (A 40) 40 (A 41) 41 (A 42) 42 (A 1) 1024 ps
def SDb (es : List (Nat × List Nat × Nat)) (us1 us2 : List (Nat × RuR)) : Prop := FXb es us1 us2 ∧ (∀ x, x ∈ us1 → RuB x.2) ∧ (∀ x, x ∈ us2 → RuB x.2) ∧ ∀ x, x ∈ es → x.2.1.length ≤ 16
def SDr (G : GG) (g : GH) (A : Nat → Nat) (es : List (Nat × List Nat × Nat)) (us1 us2 : List (Nat × RuR)) (tx : List Nat) : Prop := SDm G g A ∧ FX G g A es us1 us2 tx ∧ SDb es us1 us2
theorem WyI.M {G : GG} {g g' : GH} {A : Nat → Nat} {ws : List Nat} {S : List Nat} (h : WyI G g g A ws) (hM : gh_M S g g') (h1 : ∀ t, t ∈ [30, 31, 32, 33] → t ∉ S) : WyI G g' g' A ws := by
  obtain ⟨k1, k2, k3, k4, k5, ⟨bs, k6⟩, k7⟩ := h
  exact ⟨k1.M hM (h1 _ (by decide)), k2.M hM (h1 _ (by decide)), k3, k4, k5, ⟨bs, k6.M hM (h1 _ (by decide)) (h1 _ (by decide))⟩, gh_M.rf⟩
theorem SDm.M {G : GG} {g g' : GH} {A : Nat → Nat} {S : List Nat} (h : SDm G g A) (hM : gh_M S g g') (h1 : ∀ t, t ∈ [0, 30, 31, 32, 33, 34, 35, 36, 37, 38, 40, 41, 42] → t ∉ S) : SDm G g' A := by
  obtain ⟨k1, ⟨ws, k2⟩, ⟨fx, fp, k3⟩, ⟨ps, k4⟩⟩ := h
  exact ⟨hM _ 0 _ k1 (h1 _ (by decide)), ⟨ws, k2.M hM (fun t ht => h1 t (by simp at ht ⊢; omega))⟩, ⟨fx, fp, k3.M hM (fun t ht => h1 t (by simp at ht ⊢; omega))⟩, ⟨ps, k4.M hM (h1 _ (by decide)) (h1 _ (by decide)) (h1 _ (by decide))⟩⟩
theorem SDr.M {G : GG} {g g' : GH} {A : Nat → Nat} {es : List (Nat × List Nat × Nat)} {us1 us2 : List (Nat × RuR)} {tx : List Nat} {S : List Nat} (h : SDr G g A es us1 us2 tx) (hM : gh_M S g g') (hS : ∀ t, t ∈ S → t ∈ [3, 4, 5, 6]) : SDr G g' A es us1 us2 tx :=
  ⟨h.1.M hM (fun t ht q => by have := hS t q; simp at ht this; omega), h.2.1.M hM (fun t ht q => by have := hS t q; simp at ht this; omega), h.2.2⟩
/-- what a command leaves -/
def DoP (G : GG) (A : Nat → Nat) (tx : List Nat) (ls le : Nat) (g : GH) (ok : Bool) (q : Nat) (es : List (Nat × List Nat × Nat)) (us1 us2 : List (Nat × RuR)) (o : List Nat × Nat) (v : Option Value) (g' : GH) : Prop := v = some (.int (nI (bn ok))) ∧ (∃ s e wf wl, Ln g' (A 3) (A 1) ls le s e wf wl ∧ (ok = false → s = q)) ∧ SDr G g' A es us1 us2 tx ∧ (∃ it, Pr G g' (A 4) (A 5) (A 6) o it) ∧ gh_M SDT g g'
theorem DoP.no {G : GG} {A : Nat → Nat} {tx : List Nat} {ls le : Nat} {g : GH} {q : Nat} {es : List (Nat × List Nat × Nat)} {us1 us2 : List (Nat × RuR)} {o : List Nat × Nat} {it : Nat} {g' : GH} {s e wf wl wf2 wl2 s0 e0 : Nat} (h : SDr G g A es us1 us2 tx) (hP : Pr G g (A 4) (A 5) (A 6) o it) (hL0 : Ln g (A 3) (A 1) ls le s0 e0 wf wl) (hL : Ln g' (A 3) (A 1) ls le s e wf2 wl2) (hN : gh_N [A 3] g g') (hq : s = q) : DoP G A tx ls le g false q es us1 us2 o (some (.int (nI 0))) g' :=
  ⟨rfl, ⟨s, e, wf2, wl2, hL, fun _ => hq⟩, h.M (hL0.toM hN) (by decide), ⟨it, hP.M (hL0.toM hN) (by decide) (by decide) (by decide)⟩, (hL0.toM hN).wd (by decide)⟩
set_option maxRecDepth 20000 in
set_option maxHeartbeats 4000000 in
theorem c_SD_typed (l : Launch) (G : GG) {g : GH} {A : Nat → Nat} {es : List (Nat × List Nat × Nat)} {us1 us2 : List (Nat × RuR)} {tx : List Nat} {o : List Nat × Nat} {it : Nat} (h : SDr G g A es us1 us2 tx) : gMet l G y_SD_typed b_SD_typed 1 (some .int) (rmk 1 0 0 20) [.ref (A 0)] g (fun v g' => v = some (.int (nI tx.length)) ∧ g' = g) := by
  refine gMet.of [some (.ref (A 0))] (by decide +kernel) rfl (Nat.le_of_ble_eq_true rfl) rfl (fun X hK hI hE => ?_)
  refine gh_aload_n hK d_SD_typed_0 rfl ?_
  refine gh_get hK d_SD_typed_1 in_SD rfl h.1.1 0 (by decide) kf_SD_14 rfl rfl ?_
  refine gh_callV (rest := []) [] hK (c_Lt_count l G h.2.1.2.2.2) Y_Lt_count V_Lt_count km_SD_75 h.2.1.2.2.2.ob rfl rfl d_SD_typed_4 rfl rfl (Nat.le_of_ble_eq_true rfl) ⟨(Nat.le_of_ble_eq_true rfl), (Nat.le_of_ble_eq_true rfl)⟩ ⟨(Nat.le_of_ble_eq_true rfl), (Nat.le_of_ble_eq_true rfl)⟩ (fun v g' hp => ?_)
  rw [hp.1, hp.2]
  show gh_W l G _ X g _ _ [some (.ref (A 0))] 7 [.int (nI tx.length)]
  exact gh_iret hK hE d_SD_typed_7 (Nat.le_of_ble_eq_true rfl) (Nat.le_of_ble_eq_true rfl) ⟨rfl, rfl⟩
set_option maxRecDepth 20000 in
set_option maxHeartbeats 4000000 in
theorem c_SD_size (l : Launch) (G : GG) {g : GH} {A : Nat → Nat} {es : List (Nat × List Nat × Nat)} {us1 us2 : List (Nat × RuR)} {tx : List Nat} {o : List Nat × Nat} {it : Nat} (h : SDr G g A es us1 us2 tx) (hP : Pr G g (A 4) (A 5) (A 6) o it) : gMet l G y_SD_size b_SD_size 1 (some .int) (rmk 2 0 0 40) [.ref (A 0)] g (fun v g' => v = some (.int (nI o.1.length)) ∧ g' = g) := by
  refine gMet.of [some (.ref (A 0))] (by decide +kernel) rfl (Nat.le_of_ble_eq_true rfl) rfl (fun X hK hI hE => ?_)
  refine gh_aload_n hK d_SD_size_0 rfl ?_
  refine gh_get hK d_SD_size_1 in_SD rfl h.1.1 2 (by decide) kf_SD_30 rfl rfl ?_
  refine gh_callV (rest := []) [] hK (c_Pr_count l G hP) Y_Pr_count V_Pr_count km_SD_100 hP.1 rfl rfl d_SD_size_4 rfl rfl (Nat.le_of_ble_eq_true rfl) ⟨(Nat.le_of_ble_eq_true rfl), (Nat.le_of_ble_eq_true rfl)⟩ ⟨(Nat.le_of_ble_eq_true rfl), (Nat.le_of_ble_eq_true rfl)⟩ (fun v g' hp => ?_)
  rw [hp.1, hp.2]
  show gh_W l G _ X g _ _ [some (.ref (A 0))] 7 [.int (nI o.1.length)]
  exact gh_iret hK hE d_SD_size_7 (Nat.le_of_ble_eq_true rfl) (Nat.le_of_ble_eq_true rfl) ⟨rfl, rfl⟩
set_option maxRecDepth 20000 in
set_option maxHeartbeats 4000000 in
theorem c_SD_lost (l : Launch) (G : GG) {g : GH} {A : Nat → Nat} {es : List (Nat × List Nat × Nat)} {us1 us2 : List (Nat × RuR)} {tx : List Nat} {o : List Nat × Nat} {it : Nat} (h : SDr G g A es us1 us2 tx) (hP : Pr G g (A 4) (A 5) (A 6) o it) : gMet l G y_SD_lost b_SD_lost 1 (some .int) (rmk 1 0 0 20) [.ref (A 0)] g (fun v g' => v = some (.int (nI o.2)) ∧ g' = g) := by
  refine gMet.of [some (.ref (A 0))] (by decide +kernel) rfl (Nat.le_of_ble_eq_true rfl) rfl (fun X hK hI hE => ?_)
  refine gh_aload_n hK d_SD_lost_0 rfl ?_
  refine gh_get hK d_SD_lost_1 in_SD rfl h.1.1 2 (by decide) kf_SD_30 rfl rfl ?_
  refine gh_callV (rest := []) [] hK (c_Pr_lostCount l G hP) Y_Pr_lostCount V_Pr_lostCount km_SD_107 hP.1 rfl rfl d_SD_lost_4 rfl rfl (Nat.le_of_ble_eq_true rfl) ⟨(Nat.le_of_ble_eq_true rfl), (Nat.le_of_ble_eq_true rfl)⟩ ⟨(Nat.le_of_ble_eq_true rfl), (Nat.le_of_ble_eq_true rfl)⟩ (fun v g' hp => ?_)
  rw [hp.1, hp.2]
  show gh_W l G _ X g _ _ [some (.ref (A 0))] 7 [.int (nI o.2)]
  exact gh_iret hK hE d_SD_lost_7 (Nat.le_of_ble_eq_true rfl) (Nat.le_of_ble_eq_true rfl) ⟨rfl, rfl⟩
set_option maxRecDepth 20000 in
set_option maxHeartbeats 4000000 in
theorem c_SD_entries (l : Launch) (G : GG) {g : GH} {A : Nat → Nat} {es : List (Nat × List Nat × Nat)} {us1 us2 : List (Nat × RuR)} {tx : List Nat} {o : List Nat × Nat} {it : Nat} (h : SDr G g A es us1 us2 tx) : gMet l G y_SD_entries b_SD_entries 1 (some .int) (rmk 2 0 0 40) [.ref (A 0)] g (fun v g' => v = some (.int (nI es.length)) ∧ g' = g) := by
  refine gMet.of [some (.ref (A 0))] (by decide +kernel) rfl (Nat.le_of_ble_eq_true rfl) rfl (fun X hK hI hE => ?_)
  refine gh_aload_n hK d_SD_entries_0 rfl ?_
  refine gh_get hK d_SD_entries_1 in_SD rfl h.1.1 3 (by decide) kf_SD_37 rfl rfl ?_
  refine gh_callV (rest := []) [] hK (c_Dc_count l G h.2.1.1) Y_Dc_count V_Dc_count km_SD_111 h.2.1.1.1 rfl rfl d_SD_entries_4 rfl rfl (Nat.le_of_ble_eq_true rfl) ⟨(Nat.le_of_ble_eq_true rfl), (Nat.le_of_ble_eq_true rfl)⟩ ⟨(Nat.le_of_ble_eq_true rfl), (Nat.le_of_ble_eq_true rfl)⟩ (fun v g' hp => ?_)
  rw [hp.1, hp.2]
  show gh_W l G _ X g _ _ [some (.ref (A 0))] 7 [.int (nI es.length)]
  exact gh_iret hK hE d_SD_entries_7 (Nat.le_of_ble_eq_true rfl) (Nat.le_of_ble_eq_true rfl) ⟨rfl, rfl⟩
set_option maxRecDepth 20000 in
set_option maxHeartbeats 4000000 in
theorem c_SD_wipe (l : Launch) (G : GG) {g : GH} {A : Nat → Nat} {es : List (Nat × List Nat × Nat)} {us1 us2 : List (Nat × RuR)} {tx : List Nat} {o : List Nat × Nat} {it : Nat} (h : SDr G g A es us1 us2 tx) (hP : Pr G g (A 4) (A 5) (A 6) o it) : gMet l G y_SD_wipe b_SD_wipe 1 none (rmk 2 0 0 40) [.ref (A 0)] g (fun v g' => v = none ∧ SDr G g' A es us1 us2 tx ∧ Pr G g' (A 4) (A 5) (A 6) ([], 0) it ∧ gh_M [4, 5, 6] g g') := by
  refine gMet.of [some (.ref (A 0))] (by decide +kernel) rfl (Nat.le_of_ble_eq_true rfl) rfl (fun X hK hI hE => ?_)
  refine gh_aload_n hK d_SD_wipe_0 rfl ?_
  refine gh_get hK d_SD_wipe_1 in_SD rfl h.1.1 2 (by decide) kf_SD_30 rfl rfl ?_
  refine gh_callV (rest := []) [] hK (c_Pr_clear l G hP) Y_Pr_clear V_Pr_clear km_SD_110 hP.1 rfl rfl d_SD_wipe_4 rfl rfl (Nat.le_of_ble_eq_true rfl) ⟨(Nat.le_of_ble_eq_true rfl), (Nat.le_of_ble_eq_true rfl)⟩ ⟨(Nat.le_of_ble_eq_true rfl), (Nat.le_of_ble_eq_true rfl)⟩ (fun v g1 hp => ?_)
  obtain ⟨rfl, hp1, hp2⟩ := hp
  show gh_W l G _ X g1 _ _ [some (.ref (A 0))] 7 []
  exact gh_vret hK hE d_SD_wipe_7 (Nat.le_of_ble_eq_true rfl) (Nat.le_of_ble_eq_true rfl) ⟨rfl, h.M (hP.toM hp2) (by decide), hp1, hP.toM hp2⟩
set_option maxRecDepth 20000 in
set_option maxHeartbeats 4000000 in
theorem c_SD_rules (l : Launch) (G : GG) {g : GH} {A : Nat → Nat} {es : List (Nat × List Nat × Nat)} {us1 us2 : List (Nat × RuR)} {tx : List Nat} {o : List Nat × Nat} {it : Nat} {b : Bool} (h : SDr G g A es us1 us2 tx) : gMet l G y_SD_rules b_SD_rules 2 (some .int) (rmk 2 0 0 40) [.ref (A 0), .int (nI (bn b))] g (fun v g' => v = some (.int (nI (if b = true then us1.length else us2.length))) ∧ g' = g) := by
  refine gMet.of [some (.ref (A 0)), some (.int (nI (bn b)))] (by decide +kernel) rfl (Nat.le_of_ble_eq_true rfl) rfl (fun X hK hI hE => ?_)
  refine gh_iload_n hK d_SD_rules_0 rfl ?_
  refine gh_if_eqB hK d_SD_rules_1 (tgt := 14) (by decide) (fun z => ?_) (fun z => ?_)
  · refine gh_aload_n hK d_SD_rules_14 rfl ?_
    refine gh_get hK d_SD_rules_15 in_SD rfl h.1.1 5 (by decide) kf_SD_50 rfl rfl ?_
    refine gh_callV (rest := []) [] hK (c_Rs_count l G h.2.1.2.2.1) Y_Rs_count V_Rs_count km_SD_112 h.2.1.2.2.1.1 rfl rfl d_SD_rules_18 rfl rfl (Nat.le_of_ble_eq_true rfl) ⟨(Nat.le_of_ble_eq_true rfl), (Nat.le_of_ble_eq_true rfl)⟩ ⟨(Nat.le_of_ble_eq_true rfl), (Nat.le_of_ble_eq_true rfl)⟩ (fun v g' hp => ?_)
    rw [hp.1, hp.2]
    show gh_W l G _ X g _ _ [some (.ref (A 0)), some (.int (nI (bn b)))] 21 [.int (nI us2.length)]
    exact gh_iret hK hE d_SD_rules_21 (Nat.le_of_ble_eq_true rfl) (Nat.le_of_ble_eq_true rfl) ⟨by rw [z]; rfl, rfl⟩
  · refine gh_aload_n hK d_SD_rules_4 rfl ?_
    refine gh_get hK d_SD_rules_5 in_SD rfl h.1.1 4 (by decide) kf_SD_46 rfl rfl ?_
    refine gh_callV (rest := []) [] hK (c_Rs_count l G h.2.1.2.1) Y_Rs_count V_Rs_count km_SD_112 h.2.1.2.1.1 rfl rfl d_SD_rules_8 rfl rfl (Nat.le_of_ble_eq_true rfl) ⟨(Nat.le_of_ble_eq_true rfl), (Nat.le_of_ble_eq_true rfl)⟩ ⟨(Nat.le_of_ble_eq_true rfl), (Nat.le_of_ble_eq_true rfl)⟩ (fun v g' hp => ?_)
    rw [hp.1, hp.2]
    show gh_W l G _ X g _ _ [some (.ref (A 0)), some (.int (nI (bn b)))] 11 [.int (nI us1.length)]
    refine gh_goto (tgt := 21) hK d_SD_rules_11 (by decide) ?_
    exact gh_iret hK hE d_SD_rules_21 (Nat.le_of_ble_eq_true rfl) (Nat.le_of_ble_eq_true rfl) ⟨by rw [z]; rfl, rfl⟩
end
section
theorem srtL_erI : ∀ {l : List (List Nat)} (j : Nat), srtL l → srtL (l.eraseIdx j)
  | [], _, h => h
  | _ :: _, 0, h => h.2
  | _ :: _, j + 1, h => ⟨fun b hb => h.1 b (List.mem_of_mem_eraseIdx hb), srtL_erI j h.2⟩
theorem ow_true {tx : List Nat} {k le e wf wl : Nat} (h : owO tx k le e = true) : nxS tx le e < nxE tx le e ∧ wkF tx (nxS tx le e) (nxE tx le e) wf = nxS tx le e ∧ wkL tx (nxS tx le e) (nxE tx le e) wl = nxE tx le e - nxS tx le e ∧ nxE tx le e - nxS tx le e ≤ k ∧ 1 ≤ nxE tx le e - nxS tx le e := by
  unfold owO wdO at h
  simp only [Bool.and_eq_true, decide_eq_true_eq] at h
  refine ⟨h.1.1, if_pos h.1.1, ?_, by omega, by omega⟩
  rw [wkL, if_pos h.1.1]
  omega
/-- the piece of the text from s to e -/
def pcW (tx : List Nat) (s e : Nat) : List Nat := (tx.drop s).take (e - s)
/-- the one word behind e -/
abbrev nxW (tx : List Nat) (le e : Nat) : List Nat := pcW tx (nxS tx le e) (nxE tx le e)
set_option maxRecDepth 20000 in
set_option maxHeartbeats 4000000 in
theorem c_SD_doCount (l : Launch) (G : GG) {g : GH} {A : Nat → Nat} {es : List (Nat × List Nat × Nat)} {us1 us2 : List (Nat × RuR)} {tx : List Nat} {o : List Nat × Nat} {it : Nat} {ls le s e wf wl : Nat} (h : SDr G g A es us1 us2 tx) (hP : Pr G g (A 4) (A 5) (A 6) o 0) (hL : Ln g (A 3) (A 1) ls le s e wf wl) (he : e ≤ le) (hle : le ≤ tx.length) : gMet l G y_SD_doCount b_SD_doCount 1 (some .boolean) (rmk 3 0 0 65) [.ref (A 0)] g (DoP G A tx ls le g (decide (nxE tx le e ≤ nxS tx le e)) (nxS tx le e) es us1 us2 (if (decide (nxE tx le e ≤ nxS tx le e)) = true then prs o (decL es.length ++ 32 :: (decL us1.length ++ 32 :: decL us2.length)) else o)) := by
  refine gMet.of [some (.ref (A 0))] (by decide +kernel) rfl (Nat.le_of_ble_eq_true rfl) rfl (fun X hK hI hE => ?_)
  obtain ⟨b0, b1, b2, b3, b4⟩ := h.2.2.1
  refine gh_aload_n hK d_SD_doCount_0 rfl ?_
  refine gh_get hK d_SD_doCount_1 in_SD rfl h.1.1 1 (by decide) kf_SD_23 rfl rfl ?_
  refine gh_callV (rest := []) [] hK (c_Ln_ends l G hL h.2.1.2.2.2 he hle) Y_Ln_ends V_Ln_ends km_SD_197 hL rfl rfl d_SD_doCount_4 rfl rfl (Nat.le_of_ble_eq_true rfl) ⟨(Nat.le_of_ble_eq_true rfl), (Nat.le_of_ble_eq_true rfl)⟩ ⟨(Nat.le_of_ble_eq_true rfl), (Nat.le_of_ble_eq_true rfl)⟩ (fun v g1 hp => ?_)
  obtain ⟨rfl, hl1, hlN⟩ := hp
  show gh_W l G _ X g1 _ _ [some (.ref (A 0))] 7 [.int (nI (bn (decide (nxE tx le e ≤ nxS tx le e))))]
  have hM1 := hL.toM hlN
  have h1 := h.M hM1 (by decide)
  have hP1 := hP.M hM1 (by decide) (by decide) (by decide)
  refine gh_if_neB hK d_SD_doCount_7 (tgt := 12) (by decide) (fun z => ?_) (fun z => ?_)
  · refine gh_aload_n hK d_SD_doCount_12 rfl ?_
    refine gh_get hK d_SD_doCount_13 in_SD rfl h1.1.1 2 (by decide) kf_SD_30 rfl rfl ?_
    simp only [z, ↓reduceIte] at hE
    refine gh_callV (rest := []) [] hK (c_Pr_startItem l G hP1 (by omega)) Y_Pr_startItem V_Pr_startItem km_SD_320 hP1.1 rfl rfl d_SD_doCount_16 rfl rfl (Nat.le_of_ble_eq_true rfl) ⟨(Nat.le_of_ble_eq_true rfl), (Nat.le_of_ble_eq_true rfl)⟩ ⟨(Nat.le_of_ble_eq_true rfl), (Nat.le_of_ble_eq_true rfl)⟩ (fun v g2 hp => ?_)
    obtain ⟨rfl, ha1, hb1⟩ := hp
    show gh_W l G _ X g2 _ _ [some (.ref (A 0))] 19 []
    have hm2 := hP1.toM hb1
    have h2 := h1.M hm2 (by decide)
    refine gh_aload_n hK d_SD_doCount_19 rfl ?_
    refine gh_get hK d_SD_doCount_20 in_SD rfl h2.1.1 2 (by decide) kf_SD_30 rfl rfl ?_
    refine gh_aload_n hK d_SD_doCount_23 rfl ?_
    refine gh_get hK d_SD_doCount_24 in_SD rfl h2.1.1 3 (by decide) kf_SD_37 rfl rfl ?_
    refine gh_callV (rest := [.ref (A 4)]) [] hK (c_Dc_count l G h2.2.1.1) Y_Dc_count V_Dc_count km_SD_111 h2.2.1.1.1 rfl rfl d_SD_doCount_27 rfl rfl (Nat.le_of_ble_eq_true rfl) ⟨(Nat.le_of_ble_eq_true rfl), (Nat.le_of_ble_eq_true rfl)⟩ ⟨(Nat.le_of_ble_eq_true rfl), (Nat.le_of_ble_eq_true rfl)⟩ (fun v g' hp => ?_)
    rw [hp.1, hp.2]
    show gh_W l G _ X g2 _ _ [some (.ref (A 0))] 30 [.int (nI es.length), .ref (A 4)]
    refine gh_callV (rest := []) [.int (nI es.length)] hK (c_Pr_printNumber l G ha1 (x := es.length) (by omega)) Y_Pr_printNumber V_Pr_printNumber km_SD_182 ha1.1 rfl rfl d_SD_doCount_30 rfl rfl (Nat.le_of_ble_eq_true rfl) ⟨(Nat.le_of_ble_eq_true rfl), (Nat.le_of_ble_eq_true rfl)⟩ ⟨(Nat.le_of_ble_eq_true rfl), (Nat.le_of_ble_eq_true rfl)⟩ (fun v g3 hp => ?_)
    obtain ⟨rfl, ha2, hb2⟩ := hp
    show gh_W l G _ X g3 _ _ [some (.ref (A 0))] 33 []
    have hm3 := ha1.toM hb2
    have h3 := h2.M hm3 (by decide)
    refine gh_aload_n hK d_SD_doCount_33 rfl ?_
    refine gh_get hK d_SD_doCount_34 in_SD rfl h3.1.1 2 (by decide) kf_SD_30 rfl rfl ?_
    refine gh_callV (rest := []) [] hK (c_Pr_startItem l G ha2 (by omega)) Y_Pr_startItem V_Pr_startItem km_SD_320 ha2.1 rfl rfl d_SD_doCount_37 rfl rfl (Nat.le_of_ble_eq_true rfl) ⟨(Nat.le_of_ble_eq_true rfl), (Nat.le_of_ble_eq_true rfl)⟩ ⟨(Nat.le_of_ble_eq_true rfl), (Nat.le_of_ble_eq_true rfl)⟩ (fun v g4 hp => ?_)
    obtain ⟨rfl, ha3, hb3⟩ := hp
    show gh_W l G _ X g4 _ _ [some (.ref (A 0))] 40 []
    have hm4 := ha2.toM hb3
    have h4 := h3.M hm4 (by decide)
    refine gh_aload_n hK d_SD_doCount_40 rfl ?_
    refine gh_get hK d_SD_doCount_41 in_SD rfl h4.1.1 2 (by decide) kf_SD_30 rfl rfl ?_
    refine gh_aload_n hK d_SD_doCount_44 rfl ?_
    refine gh_get hK d_SD_doCount_45 in_SD rfl h4.1.1 4 (by decide) kf_SD_46 rfl rfl ?_
    refine gh_callV (rest := [.ref (A 4)]) [] hK (c_Rs_count l G h4.2.1.2.1) Y_Rs_count V_Rs_count km_SD_112 h4.2.1.2.1.1 rfl rfl d_SD_doCount_48 rfl rfl (Nat.le_of_ble_eq_true rfl) ⟨(Nat.le_of_ble_eq_true rfl), (Nat.le_of_ble_eq_true rfl)⟩ ⟨(Nat.le_of_ble_eq_true rfl), (Nat.le_of_ble_eq_true rfl)⟩ (fun v g' hp => ?_)
    rw [hp.1, hp.2]
    show gh_W l G _ X g4 _ _ [some (.ref (A 0))] 51 [.int (nI us1.length), .ref (A 4)]
    refine gh_callV (rest := []) [.int (nI us1.length)] hK (c_Pr_printNumber l G ha3 (x := us1.length) (by omega)) Y_Pr_printNumber V_Pr_printNumber km_SD_182 ha3.1 rfl rfl d_SD_doCount_51 rfl rfl (Nat.le_of_ble_eq_true rfl) ⟨(Nat.le_of_ble_eq_true rfl), (Nat.le_of_ble_eq_true rfl)⟩ ⟨(Nat.le_of_ble_eq_true rfl), (Nat.le_of_ble_eq_true rfl)⟩ (fun v g5 hp => ?_)
    obtain ⟨rfl, ha4, hb4⟩ := hp
    show gh_W l G _ X g5 _ _ [some (.ref (A 0))] 54 []
    have hm5 := ha3.toM hb4
    have h5 := h4.M hm5 (by decide)
    refine gh_aload_n hK d_SD_doCount_54 rfl ?_
    refine gh_get hK d_SD_doCount_55 in_SD rfl h5.1.1 2 (by decide) kf_SD_30 rfl rfl ?_
    refine gh_callV (rest := []) [] hK (c_Pr_startItem l G ha4 (by omega)) Y_Pr_startItem V_Pr_startItem km_SD_320 ha4.1 rfl rfl d_SD_doCount_58 rfl rfl (Nat.le_of_ble_eq_true rfl) ⟨(Nat.le_of_ble_eq_true rfl), (Nat.le_of_ble_eq_true rfl)⟩ ⟨(Nat.le_of_ble_eq_true rfl), (Nat.le_of_ble_eq_true rfl)⟩ (fun v g6 hp => ?_)
    obtain ⟨rfl, ha5, hb5⟩ := hp
    show gh_W l G _ X g6 _ _ [some (.ref (A 0))] 61 []
    have hm6 := ha4.toM hb5
    have h6 := h5.M hm6 (by decide)
    refine gh_aload_n hK d_SD_doCount_61 rfl ?_
    refine gh_get hK d_SD_doCount_62 in_SD rfl h6.1.1 2 (by decide) kf_SD_30 rfl rfl ?_
    refine gh_aload_n hK d_SD_doCount_65 rfl ?_
    refine gh_get hK d_SD_doCount_66 in_SD rfl h6.1.1 5 (by decide) kf_SD_50 rfl rfl ?_
    refine gh_callV (rest := [.ref (A 4)]) [] hK (c_Rs_count l G h6.2.1.2.2.1) Y_Rs_count V_Rs_count km_SD_112 h6.2.1.2.2.1.1 rfl rfl d_SD_doCount_69 rfl rfl (Nat.le_of_ble_eq_true rfl) ⟨(Nat.le_of_ble_eq_true rfl), (Nat.le_of_ble_eq_true rfl)⟩ ⟨(Nat.le_of_ble_eq_true rfl), (Nat.le_of_ble_eq_true rfl)⟩ (fun v g' hp => ?_)
    rw [hp.1, hp.2]
    show gh_W l G _ X g6 _ _ [some (.ref (A 0))] 72 [.int (nI us2.length), .ref (A 4)]
    refine gh_callV (rest := []) [.int (nI us2.length)] hK (c_Pr_printNumber l G ha5 (x := us2.length) (by omega)) Y_Pr_printNumber V_Pr_printNumber km_SD_182 ha5.1 rfl rfl d_SD_doCount_72 rfl rfl (Nat.le_of_ble_eq_true rfl) ⟨(Nat.le_of_ble_eq_true rfl), (Nat.le_of_ble_eq_true rfl)⟩ ⟨(Nat.le_of_ble_eq_true rfl), (Nat.le_of_ble_eq_true rfl)⟩ (fun v g7 hp => ?_)
    obtain ⟨rfl, ha6, hb6⟩ := hp
    show gh_W l G _ X g7 _ _ [some (.ref (A 0))] 75 []
    have hm7 := ha5.toM hb6
    have h7 := h6.M hm7 (by decide)
    refine gh_iconst (v := nI 1) hK d_SD_doCount_75 (by decide) ?_
    have hmm := ((((hm2.tr hm3).tr hm4).tr hm5).tr hm6).tr hm7
    refine gh_zret rfl hK hE d_SD_doCount_76 (Nat.le_of_ble_eq_true rfl) (Nat.le_of_ble_eq_true rfl) ⟨rfl, ⟨_, _, _, _, hl1.M hmm (by decide), fun q => by cases q⟩, h7, ⟨3, ?_⟩, (hM1.wd (by decide)).tr (hmm.wd (by decide))⟩
    rw [prs_app, prs_cons, prs_app, prs_cons]
    exact ha6
  · refine gh_iconst (v := nI 0) hK d_SD_doCount_10 (by decide) ?_
    simp only [z, Bool.false_eq_true, ↓reduceIte] at hE
    exact gh_zret rfl hK hE d_SD_doCount_11 (Nat.le_of_ble_eq_true rfl) (Nat.le_of_ble_eq_true rfl) (DoP.no h hP hL hl1 hlN rfl)
set_option maxRecDepth 20000 in
set_option maxHeartbeats 4000000 in
theorem c_SD_doClear (l : Launch) (G : GG) {g : GH} {A : Nat → Nat} {es : List (Nat × List Nat × Nat)} {us1 us2 : List (Nat × RuR)} {tx : List Nat} {o : List Nat × Nat} {it : Nat} {ls le s e wf wl : Nat} (h : SDr G g A es us1 us2 tx) (hP : Pr G g (A 4) (A 5) (A 6) o it) (hL : Ln g (A 3) (A 1) ls le s e wf wl) (he : e ≤ le) (hle : le ≤ tx.length) : gMet l G y_SD_doClear b_SD_doClear 1 (some .boolean) (rmk 5 0 0 107) [.ref (A 0)] g (DoP G A tx ls le g (decide (nxE tx le e ≤ nxS tx le e)) (nxS tx le e) (if (decide (nxE tx le e ≤ nxS tx le e)) = true then [] else es) (if (decide (nxE tx le e ≤ nxS tx le e)) = true then [] else us1) (if (decide (nxE tx le e ≤ nxS tx le e)) = true then [] else us2) (if (decide (nxE tx le e ≤ nxS tx le e)) = true then prs o (st_txt.getD 3 []) else o)) := by
  refine gMet.of [some (.ref (A 0))] (by decide +kernel) rfl (Nat.le_of_ble_eq_true rfl) rfl (fun X hK hI hE => ?_)
  refine gh_aload_n hK d_SD_doClear_0 rfl ?_
  refine gh_get hK d_SD_doClear_1 in_SD rfl h.1.1 1 (by decide) kf_SD_23 rfl rfl ?_
  refine gh_callV (rest := []) [] hK (c_Ln_ends l G hL h.2.1.2.2.2 he hle) Y_Ln_ends V_Ln_ends km_SD_197 hL rfl rfl d_SD_doClear_4 rfl rfl (Nat.le_of_ble_eq_true rfl) ⟨(Nat.le_of_ble_eq_true rfl), (Nat.le_of_ble_eq_true rfl)⟩ ⟨(Nat.le_of_ble_eq_true rfl), (Nat.le_of_ble_eq_true rfl)⟩ (fun v g1 hp => ?_)
  obtain ⟨rfl, hl1, hlN⟩ := hp
  show gh_W l G _ X g1 _ _ [some (.ref (A 0))] 7 [.int (nI (bn (decide (nxE tx le e ≤ nxS tx le e))))]
  have hM1 := hL.toM hlN
  have h1 := h.M hM1 (by decide)
  have hP1 := hP.M hM1 (by decide) (by decide) (by decide)
  refine gh_if_neB hK d_SD_doClear_7 (tgt := 12) (by decide) (fun z => ?_) (fun z => ?_)
  · simp only [z, ↓reduceIte] at hE
    refine gh_aload_n hK d_SD_doClear_12 rfl ?_
    refine gh_get hK d_SD_doClear_13 in_SD rfl h1.1.1 3 (by decide) kf_SD_37 rfl rfl ?_
    refine gh_callV (rest := []) [] hK (c_Dc_clear l G h1.2.1.1) Y_Dc_clear V_Dc_clear km_SD_339 h1.2.1.1.1 rfl rfl d_SD_doClear_16 rfl rfl (Nat.le_of_ble_eq_true rfl) ⟨(Nat.le_of_ble_eq_true rfl), (Nat.le_of_ble_eq_true rfl)⟩ ⟨(Nat.le_of_ble_eq_true rfl), (Nat.le_of_ble_eq_true rfl)⟩ (fun v g2 hp => ?_)
    obtain ⟨rfl, d2, m2⟩ := hp
    show gh_W l G _ X g2 _ _ [some (.ref (A 0))] 19 []
    have k2 : g2 (A 0) = _ := m2 _ 0 _ h1.1.1 (by decide)
    have r2 := h1.2.1.2.1.M m2 (by decide)
    refine gh_aload_n hK d_SD_doClear_19 rfl ?_
    refine gh_get hK d_SD_doClear_20 in_SD rfl k2 4 (by decide) kf_SD_46 rfl rfl ?_
    refine gh_callV (rest := []) [] hK (c_Rs_clear l G r2 (Or.inl rfl)) Y_Rs_clear V_Rs_clear km_SD_340 r2.1 rfl rfl d_SD_doClear_23 rfl rfl (Nat.le_of_ble_eq_true rfl) ⟨(Nat.le_of_ble_eq_true rfl), (Nat.le_of_ble_eq_true rfl)⟩ ⟨(Nat.le_of_ble_eq_true rfl), (Nat.le_of_ble_eq_true rfl)⟩ (fun v g3 hp => ?_)
    obtain ⟨rfl, d3, m3⟩ := hp
    show gh_W l G _ X g3 _ _ [some (.ref (A 0))] 26 []
    have k3 : g3 (A 0) = _ := m3 _ 0 _ k2 (by decide)
    have r3 := (h1.2.1.2.2.1.M m2 (by decide)).M m3 (by decide)
    refine gh_aload_n hK d_SD_doClear_26 rfl ?_
    refine gh_get hK d_SD_doClear_27 in_SD rfl k3 5 (by decide) kf_SD_50 rfl rfl ?_
    refine gh_callV (rest := []) [] hK (c_Rs_clear l G r3 (Or.inr rfl)) Y_Rs_clear V_Rs_clear km_SD_340 r3.1 rfl rfl d_SD_doClear_30 rfl rfl (Nat.le_of_ble_eq_true rfl) ⟨(Nat.le_of_ble_eq_true rfl), (Nat.le_of_ble_eq_true rfl)⟩ ⟨(Nat.le_of_ble_eq_true rfl), (Nat.le_of_ble_eq_true rfl)⟩ (fun v g4 hp => ?_)
    obtain ⟨rfl, d4, m4⟩ := hp
    show gh_W l G _ X g4 _ _ [some (.ref (A 0))] 33 []
    have k4 : g4 (A 0) = _ := m4 _ 0 _ k3 (by decide)
    have m5 : gh_M [8, 9, 11, 12, 21, 22] g1 g4 := ((m2.wd (by decide)).tr (m3.wd (by decide))).tr (m4.wd (by decide))
    have h5 : SDr G g4 A [] [] [] tx := ⟨h1.1.M m5 (by decide), ⟨(d2.M m3 (by decide)).M m4 (by decide), d3.M m4 (by decide), d4, h1.2.1.2.2.2.M m5 (by decide) (by decide)⟩, ⟨trivial, by simp, by simp, by simp, by simp, by simp, by simp⟩, by simp, by simp, by simp⟩
    have hP5 := hP1.M m5 (by decide) (by decide) (by decide)
    refine gh_aload_n hK d_SD_doClear_33 rfl ?_
    refine gh_get hK d_SD_doClear_34 in_SD rfl k4 2 (by decide) kf_SD_30 rfl rfl ?_
    refine gh_ldcS (i := 3) hK d_SD_doClear_37 (by decide) rfl ?_
    refine gh_callV (rest := []) [.ref (G.2.2.1 3)] hK (c_Pr_printText l G hP5 (i := 3) (by decide)) Y_Pr_printText V_Pr_printText km_SD_176 hP5.1 rfl rfl d_SD_doClear_39 rfl rfl (Nat.le_of_ble_eq_true rfl) ⟨(Nat.le_of_ble_eq_true rfl), (Nat.le_of_ble_eq_true rfl)⟩ ⟨(Nat.le_of_ble_eq_true rfl), (Nat.le_of_ble_eq_true rfl)⟩ (fun v g5 hp => ?_)
    obtain ⟨rfl, hq1, hq2⟩ := hp
    show gh_W l G _ X g5 _ _ [some (.ref (A 0))] 42 []
    refine gh_iconst (v := nI 1) hK d_SD_doClear_42 (by decide) ?_
    have m6 := hP5.toM hq2
    exact gh_zret rfl hK hE d_SD_doClear_43 (Nat.le_of_ble_eq_true rfl) (Nat.le_of_ble_eq_true rfl) ⟨rfl, ⟨_, _, _, _, (hl1.M m5 (by decide)).M m6 (by decide), fun q => by cases q⟩, h5.M m6 (by decide), ⟨_, hq1⟩, ((hM1.wd (by decide)).tr (m5.wd (by decide))).tr (m6.wd (by decide))⟩
  · refine gh_iconst (v := nI 0) hK d_SD_doClear_10 (by decide) ?_
    simp only [z, Bool.false_eq_true, ↓reduceIte] at hE
    exact gh_zret rfl hK hE d_SD_doClear_11 (Nat.le_of_ble_eq_true rfl) (Nat.le_of_ble_eq_true rfl) (DoP.no h hP hL hl1 hlN rfl)
end
section
theorem dws_at2 {es : List (Nat × List Nat × Nat)} {j : Nat} : (dws es)[j]? = (es[j]?).map fun x => x.2.1 := by
  unfold dws
  rw [List.getElem?_map]
theorem fnd_yes {es : List (Nat × List Nat × Nat)} {w : List Nat} (hs : srtL (dws es)) (h : w ∈ dws es) : ∃ x, es[rnkL w (dws es)]? = some x ∧ x.2.1 = w := by
  have k := (rnkL_mem w hs).mp h
  rw [dws_at2] at k
  cases hx : es[rnkL w (dws es)]? with
  | none => rw [hx] at k; cases k
  | some x => rw [hx] at k; exact ⟨x, rfl, Option.some.inj k⟩
theorem fnd_no {es : List (Nat × List Nat × Nat)} {w : List Nat} (hs : srtL (dws es)) (h : w ∉ dws es) : ∀ x, es[rnkL w (dws es)]? = some x → x.2.1 ≠ w := fun x hx q => h ((rnkL_mem w hs).mpr (by rw [dws_at2, hx, Option.map_some, q]))
theorem rnkd_le (es : List (Nat × List Nat × Nat)) (w : List Nat) : rnkL w (dws es) ≤ es.length := by
  have := rnkL_le w (dws es)
  unfold dws at this ⊢
  rw [List.length_map] at this
  exact this
theorem SDb.er {es : List (Nat × List Nat × Nat)} {us1 us2 : List (Nat × RuR)} (h : SDb es us1 us2) (j : Nat) : SDb (es.eraseIdx j) us1 us2 := by
  obtain ⟨⟨k1, k2, k3, k4, k5, k6⟩, h2, h3, h4⟩ := h
  refine ⟨⟨?_, Nat.le_trans (by rw [List.length_eraseIdx]; split <;> omega) k2, k3, k4, fun x hx => k5 x (List.mem_of_mem_eraseIdx hx), k6⟩, h2, h3, fun x hx => h4 x (List.mem_of_mem_eraseIdx hx)⟩
  unfold dws
  rw [map_erI]
  exact srtL_erI j k1
theorem SDr.dc {G : GG} {g g' : GH} {A : Nat → Nat} {es es' : List (Nat × List Nat × Nat)} {us1 us2 : List (Nat × RuR)} {tx : List Nat} {S : List Nat} (h : SDr G g A es us1 us2 tx) (hM : gh_M S g g') (hS : ∀ t, t ∈ S → t ∈ [8, 9, 50, 51, 52]) (hd : Dc G g' (A 7) (A 8) es') (hb : SDb es' us1 us2) : SDr G g' A es' us1 us2 tx :=
  ⟨h.1.M hM (fun t ht q => by have := hS t q; simp at ht this; omega), ⟨hd, h.2.1.2.1.M hM (fun t ht q => by have := hS t q; simp at ht this; omega), h.2.1.2.2.1.M hM (fun t ht q => by have := hS t q; simp at ht this; omega), h.2.1.2.2.2.M hM (fun q => by have := hS _ q; simp at this) (fun q => by have := hS _ q; simp at this)⟩, hb⟩
set_option maxRecDepth 20000 in
set_option maxHeartbeats 4000000 in
theorem c_SD_doDrop (l : Launch) (G : GG) {g : GH} {A : Nat → Nat} {es : List (Nat × List Nat × Nat)} {us1 us2 : List (Nat × RuR)} {tx : List Nat} {o : List Nat × Nat} {it : Nat} {ls le s e wf wl : Nat} (h : SDr G g A es us1 us2 tx) (hP : Pr G g (A 4) (A 5) (A 6) o it) (hL : Ln g (A 3) (A 1) ls le s e wf wl) (he : e ≤ le) (hle : le ≤ tx.length) : gMet l G y_SD_doDrop b_SD_doDrop 2 (some .boolean) (rmk 5 0 0 131) [.ref (A 0)] g (DoP G A tx ls le g (owO tx 16 le e) (owS tx 16 le e) (if (owO tx 16 le e) = true then (if (nxW tx le e) ∈ dws es then es.eraseIdx (rnkL (nxW tx le e) (dws es)) else es) else es) us1 us2 (if (owO tx 16 le e) = true then prs o (if (nxW tx le e) ∈ dws es then st_txt.getD 3 [] else st_txt.getD 5 []) else o)) := by
  refine gMet.of [some (.ref (A 0)), none] (by decide +kernel) rfl (Nat.le_of_ble_eq_true rfl) rfl (fun X hK hI hE => ?_)
  refine gh_aload_n hK d_SD_doDrop_0 rfl ?_
  refine gh_get hK d_SD_doDrop_1 in_SD rfl h.1.1 1 (by decide) kf_SD_23 rfl rfl ?_
  refine gh_bipush (v := nI 16) hK d_SD_doDrop_4 (by decide) ?_
  refine gh_callV (rest := []) [.int (nI 16)] hK (c_Ln_nextIsOnlyWord l G hL h.2.1.2.2.2 (k := 16) he hle (by decide)) Y_Ln_nextIsOnlyWord V_Ln_nextIsOnlyWord km_SD_228 hL rfl rfl d_SD_doDrop_6 rfl rfl (Nat.le_of_ble_eq_true rfl) ⟨(Nat.le_of_ble_eq_true rfl), (Nat.le_of_ble_eq_true rfl)⟩ ⟨(Nat.le_of_ble_eq_true rfl), (Nat.le_of_ble_eq_true rfl)⟩ (fun v g1 hp => ?_)
  obtain ⟨rfl, hl1, hlN⟩ := hp
  show gh_W l G _ X g1 _ _ [some (.ref (A 0)), none] 9 [.int (nI (bn (owO tx 16 le e)))]
  have hM1 := hL.toM hlN
  have h1 := h.M hM1 (by decide)
  have hP1 := hP.M hM1 (by decide) (by decide) (by decide)
  obtain ⟨b1, b2⟩ := nxS_le (tx := tx) he
  obtain ⟨b3, b4⟩ := nxE_le (tx := tx) he
  refine gh_if_neB hK d_SD_doDrop_9 (tgt := 14) (by decide) (fun z => ?_) (fun z => ?_)
  · simp only [z, ↓reduceIte] at hE
    obtain ⟨w1, w2, w3, w4, w5⟩ := ow_true (wf := wf) (wl := wl) z
    rw [w2, w3] at hl1
    have hfl : nxS tx le e + (nxE tx le e - nxS tx le e) ≤ tx.length := by omega
    refine gh_aload_n hK d_SD_doDrop_14 rfl ?_
    refine gh_get hK d_SD_doDrop_15 in_SD rfl h1.1.1 3 (by decide) kf_SD_37 rfl rfl ?_
    refine gh_aload_n hK d_SD_doDrop_18 rfl ?_
    refine gh_get hK d_SD_doDrop_19 in_SD rfl h1.1.1 0 (by decide) kf_SD_14 rfl rfl ?_
    refine gh_aload_n hK d_SD_doDrop_22 rfl ?_
    refine gh_get hK d_SD_doDrop_23 in_SD rfl h1.1.1 1 (by decide) kf_SD_23 rfl rfl ?_
    refine gh_callV (rest := [.ref (A 1), .ref (A 7)]) [] hK (c_Ln_wordFrom l G hl1) Y_Ln_wordFrom V_Ln_wordFrom km_SD_232 hl1 rfl rfl d_SD_doDrop_26 rfl rfl (Nat.le_of_ble_eq_true rfl) ⟨(Nat.le_of_ble_eq_true rfl), (Nat.le_of_ble_eq_true rfl)⟩ ⟨(Nat.le_of_ble_eq_true rfl), (Nat.le_of_ble_eq_true rfl)⟩ (fun v g' hp => ?_)
    rw [hp.1, hp.2]
    show gh_W l G _ X g1 _ _ [some (.ref (A 0)), none] 29 [.int (nI (nxS tx le e)), .ref (A 1), .ref (A 7)]
    refine gh_aload_n hK d_SD_doDrop_29 rfl ?_
    refine gh_get hK d_SD_doDrop_30 in_SD rfl h1.1.1 1 (by decide) kf_SD_23 rfl rfl ?_
    refine gh_callV (rest := [.int (nI (nxS tx le e)), .ref (A 1), .ref (A 7)]) [] hK (c_Ln_wordLength l G hl1) Y_Ln_wordLength V_Ln_wordLength km_SD_235 hl1 rfl rfl d_SD_doDrop_33 rfl rfl (Nat.le_of_ble_eq_true rfl) ⟨(Nat.le_of_ble_eq_true rfl), (Nat.le_of_ble_eq_true rfl)⟩ ⟨(Nat.le_of_ble_eq_true rfl), (Nat.le_of_ble_eq_true rfl)⟩ (fun v g' hp => ?_)
    rw [hp.1, hp.2]
    show gh_W l G _ X g1 _ _ [some (.ref (A 0)), none] 36 [.int (nI (nxE tx le e - nxS tx le e)), .int (nI (nxS tx le e)), .ref (A 1), .ref (A 7)]
    refine gh_callV (rest := []) [.ref (A 1), .int (nI (nxS tx le e)), .int (nI (nxE tx le e - nxS tx le e))] hK (c_Dc_rankOf l G h1.2.1.1 h1.2.2.1.1 h1.2.1.2.2.2 (fr := nxS tx le e) (len := nxE tx le e - nxS tx le e) hfl) Y_Dc_rankOf V_Dc_rankOf km_SD_200 h1.2.1.1.1 rfl rfl d_SD_doDrop_36 rfl rfl (Nat.le_of_ble_eq_true rfl) ⟨(Nat.le_of_ble_eq_true rfl), (Nat.le_of_ble_eq_true rfl)⟩ ⟨(Nat.le_of_ble_eq_true rfl), (Nat.le_of_ble_eq_true rfl)⟩ (fun v g' hp => ?_)
    rw [hp.1, hp.2]
    show gh_W l G _ X g1 _ _ [some (.ref (A 0)), none] 39 [.int (nI (rnkL (nxW tx le e) (dws es)))]
    refine gh_istore_n (lv' := [some (.ref (A 0)), some (.int (nI (rnkL (nxW tx le e) (dws es))))]) hK d_SD_doDrop_39 (Nat.le_of_ble_eq_true rfl) rfl ?_
    refine gh_aload_n hK d_SD_doDrop_40 rfl ?_
    refine gh_get hK d_SD_doDrop_41 in_SD rfl h1.1.1 3 (by decide) kf_SD_37 rfl rfl ?_
    refine gh_iload_n hK d_SD_doDrop_44 rfl ?_
    refine gh_aload_n hK d_SD_doDrop_45 rfl ?_
    refine gh_get hK d_SD_doDrop_46 in_SD rfl h1.1.1 0 (by decide) kf_SD_14 rfl rfl ?_
    refine gh_aload_n hK d_SD_doDrop_49 rfl ?_
    refine gh_get hK d_SD_doDrop_50 in_SD rfl h1.1.1 1 (by decide) kf_SD_23 rfl rfl ?_
    refine gh_callV (rest := [.ref (A 1), .int (nI (rnkL (nxW tx le e) (dws es))), .ref (A 7)]) [] hK (c_Ln_wordFrom l G hl1) Y_Ln_wordFrom V_Ln_wordFrom km_SD_232 hl1 rfl rfl d_SD_doDrop_53 rfl rfl (Nat.le_of_ble_eq_true rfl) ⟨(Nat.le_of_ble_eq_true rfl), (Nat.le_of_ble_eq_true rfl)⟩ ⟨(Nat.le_of_ble_eq_true rfl), (Nat.le_of_ble_eq_true rfl)⟩ (fun v g' hp => ?_)
    rw [hp.1, hp.2]
    show gh_W l G _ X g1 _ _ [some (.ref (A 0)), some (.int (nI (rnkL (nxW tx le e) (dws es))))] 56 [.int (nI (nxS tx le e)), .ref (A 1), .int (nI (rnkL (nxW tx le e) (dws es))), .ref (A 7)]
    refine gh_aload_n hK d_SD_doDrop_56 rfl ?_
    refine gh_get hK d_SD_doDrop_57 in_SD rfl h1.1.1 1 (by decide) kf_SD_23 rfl rfl ?_
    refine gh_callV (rest := [.int (nI (nxS tx le e)), .ref (A 1), .int (nI (rnkL (nxW tx le e) (dws es))), .ref (A 7)]) [] hK (c_Ln_wordLength l G hl1) Y_Ln_wordLength V_Ln_wordLength km_SD_235 hl1 rfl rfl d_SD_doDrop_60 rfl rfl (Nat.le_of_ble_eq_true rfl) ⟨(Nat.le_of_ble_eq_true rfl), (Nat.le_of_ble_eq_true rfl)⟩ ⟨(Nat.le_of_ble_eq_true rfl), (Nat.le_of_ble_eq_true rfl)⟩ (fun v g' hp => ?_)
    rw [hp.1, hp.2]
    show gh_W l G _ X g1 _ _ [some (.ref (A 0)), some (.int (nI (rnkL (nxW tx le e) (dws es))))] 63 [.int (nI (nxE tx le e - nxS tx le e)), .int (nI (nxS tx le e)), .ref (A 1), .int (nI (rnkL (nxW tx le e) (dws es))), .ref (A 7)]
    have hrk := rnkd_le es (nxW tx le e)
    have hes := h1.2.2.1.2.1
    by_cases hq : (nxW tx le e) ∈ dws es
    · obtain ⟨x, x1, x2⟩ := fnd_yes h1.2.2.1.1 hq
      simp only [hq, ↓reduceIte] at hE
      refine gh_callV (rest := []) [.int (nI (rnkL (nxW tx le e) (dws es))), .ref (A 1), .int (nI (nxS tx le e)), .int (nI (nxE tx le e - nxS tx le e))] hK (c_Dc_atW l G h1.2.1.1 (j := rnkL (nxW tx le e) (dws es)) (by omega) h1.2.1.2.2.2 (fr := nxS tx le e) (len := nxE tx le e - nxS tx le e) hfl) Y_Dc_at V_Dc_at km_SD_204 h1.2.1.1.1 rfl rfl d_SD_doDrop_63 rfl rfl (Nat.le_of_ble_eq_true rfl) ⟨(Nat.le_of_ble_eq_true rfl), (Nat.le_of_ble_eq_true rfl)⟩ ⟨(Nat.le_of_ble_eq_true rfl), (Nat.le_of_ble_eq_true rfl)⟩ (fun v g' hp => ?_)
      rw [hp.1 x x1 x2, hp.2.2]
      show gh_W l G _ X g1 _ _ [some (.ref (A 0)), some (.int (nI (rnkL (nxW tx le e) (dws es))))] 66 [.ref x.1]
      refine gh_ifnonnull hK d_SD_doDrop_66 (tgt := 81) (by decide) ?_
      refine gh_aload_n hK d_SD_doDrop_81 rfl ?_
      refine gh_get hK d_SD_doDrop_82 in_SD rfl h1.1.1 3 (by decide) kf_SD_37 rfl rfl ?_
      refine gh_iload_n hK d_SD_doDrop_85 rfl ?_
      have hlt := (List.getElem?_eq_some_iff.mp x1).1
      refine gh_callV (rest := []) [.int (nI (rnkL (nxW tx le e) (dws es)))] hK (c_Dc_remove l G h1.2.1.1 (j := rnkL (nxW tx le e) (dws es)) hlt) Y_Dc_remove V_Dc_remove km_SD_240 h1.2.1.1.1 rfl rfl d_SD_doDrop_86 rfl rfl (Nat.le_of_ble_eq_true rfl) ⟨(Nat.le_of_ble_eq_true rfl), (Nat.le_of_ble_eq_true rfl)⟩ ⟨(Nat.le_of_ble_eq_true rfl), (Nat.le_of_ble_eq_true rfl)⟩ (fun v g2 hp => ?_)
      obtain ⟨rfl, d2, m2⟩ := hp
      show gh_W l G _ X g2 _ _ [some (.ref (A 0)), some (.int (nI (rnkL (nxW tx le e) (dws es))))] 89 []
      have h2 := h1.dc m2 (by decide) d2 (h1.2.2.er _)
      have hP2 := hP1.M m2 (by decide) (by decide) (by decide)
      refine gh_aload_n hK d_SD_doDrop_89 rfl ?_
      refine gh_get hK d_SD_doDrop_90 in_SD rfl h2.1.1 2 (by decide) kf_SD_30 rfl rfl ?_
      refine gh_ldcS (i := 3) hK d_SD_doDrop_93 (by decide) rfl ?_
      refine gh_callV (rest := []) [.ref (G.2.2.1 3)] hK (c_Pr_printText l G hP2 (i := 3) (by decide)) Y_Pr_printText V_Pr_printText km_SD_176 hP2.1 rfl rfl d_SD_doDrop_95 rfl rfl (Nat.le_of_ble_eq_true rfl) ⟨(Nat.le_of_ble_eq_true rfl), (Nat.le_of_ble_eq_true rfl)⟩ ⟨(Nat.le_of_ble_eq_true rfl), (Nat.le_of_ble_eq_true rfl)⟩ (fun v g3 hp => ?_)
      obtain ⟨rfl, hq1, hq2⟩ := hp
      show gh_W l G _ X g3 _ _ [some (.ref (A 0)), some (.int (nI (rnkL (nxW tx le e) (dws es))))] 98 []
      refine gh_iconst (v := nI 1) hK d_SD_doDrop_98 (by decide) ?_
      have m3 := hP2.toM hq2
      exact gh_zret rfl hK hE d_SD_doDrop_99 (Nat.le_of_ble_eq_true rfl) (Nat.le_of_ble_eq_true rfl) ⟨rfl, ⟨_, _, _, _, (hl1.M m2 (by decide)).M m3 (by decide), fun q => by cases q⟩, h2.M m3 (by decide), ⟨_, hq1⟩, ((hM1.wd (by decide)).tr (m2.wd (by decide))).tr (m3.wd (by decide))⟩
    · simp only [hq, ↓reduceIte] at hE
      refine gh_callV (rest := []) [.int (nI (rnkL (nxW tx le e) (dws es))), .ref (A 1), .int (nI (nxS tx le e)), .int (nI (nxE tx le e - nxS tx le e))] hK (c_Dc_atW l G h1.2.1.1 (j := rnkL (nxW tx le e) (dws es)) (by omega) h1.2.1.2.2.2 (fr := nxS tx le e) (len := nxE tx le e - nxS tx le e) hfl) Y_Dc_at V_Dc_at km_SD_204 h1.2.1.1.1 rfl rfl d_SD_doDrop_63 rfl rfl (Nat.le_of_ble_eq_true rfl) ⟨(Nat.le_of_ble_eq_true rfl), (Nat.le_of_ble_eq_true rfl)⟩ ⟨(Nat.le_of_ble_eq_true rfl), (Nat.le_of_ble_eq_true rfl)⟩ (fun v g' hp => ?_)
      rw [hp.2.1 (fnd_no h1.2.2.1.1 hq), hp.2.2]
      show gh_W l G _ X g1 _ _ [some (.ref (A 0)), some (.int (nI (rnkL (nxW tx le e) (dws es))))] 66 [.null]
      refine gh_ifnonnullN hK d_SD_doDrop_66 ?_
      refine gh_aload_n hK d_SD_doDrop_69 rfl ?_
      refine gh_get hK d_SD_doDrop_70 in_SD rfl h1.1.1 2 (by decide) kf_SD_30 rfl rfl ?_
      refine gh_ldcS (i := 5) hK d_SD_doDrop_73 (by decide) rfl ?_
      refine gh_callV (rest := []) [.ref (G.2.2.1 5)] hK (c_Pr_printText l G hP1 (i := 5) (by decide)) Y_Pr_printText V_Pr_printText km_SD_176 hP1.1 rfl rfl d_SD_doDrop_75 rfl rfl (Nat.le_of_ble_eq_true rfl) ⟨(Nat.le_of_ble_eq_true rfl), (Nat.le_of_ble_eq_true rfl)⟩ ⟨(Nat.le_of_ble_eq_true rfl), (Nat.le_of_ble_eq_true rfl)⟩ (fun v g3 hp => ?_)
      obtain ⟨rfl, hq1, hq2⟩ := hp
      show gh_W l G _ X g3 _ _ [some (.ref (A 0)), some (.int (nI (rnkL (nxW tx le e) (dws es))))] 78 []
      refine gh_goto (tgt := 98) hK d_SD_doDrop_78 (by decide) ?_
      refine gh_iconst (v := nI 1) hK d_SD_doDrop_98 (by decide) ?_
      have m3 := hP1.toM hq2
      exact gh_zret rfl hK hE d_SD_doDrop_99 (Nat.le_of_ble_eq_true rfl) (Nat.le_of_ble_eq_true rfl) ⟨rfl, ⟨_, _, _, _, hl1.M m3 (by decide), fun q => by cases q⟩, h1.M m3 (by decide), ⟨_, hq1⟩, (hM1.wd (by decide)).tr (m3.wd (by decide))⟩
  · refine gh_iconst (v := nI 0) hK d_SD_doDrop_12 (by decide) ?_
    simp only [z, Bool.false_eq_true, ↓reduceIte] at hE
    exact gh_zret rfl hK hE d_SD_doDrop_13 (Nat.le_of_ble_eq_true rfl) (Nat.le_of_ble_eq_true rfl) (DoP.no h hP hL hl1 hlN rfl)
end
section
/-! items, and a line of them -/
def itL : List Nat × Nat → Nat → List (List Nat) → List Nat × Nat
  | o, _, [] => o
  | o, it, w :: ws => itL (prs (if 0 < it then prt o 32 else o) w) (it + 1) ws
def jnT : List (List Nat) → List Nat
  | [] => []
  | w :: ws => 32 :: (w ++ jnT ws)
def jnI : List (List Nat) → List Nat
  | [] => [45]
  | w :: ws => w ++ jnT ws
theorem itL_pos : ∀ (o : List Nat × Nat) (it : Nat) (ws : List (List Nat)), itL o (it + 1) ws = prs o (jnT ws)
  | _, _, [] => rfl
  | o, it, w :: ws => by rw [itL, if_pos (Nat.succ_pos it), itL_pos, jnT, prs_cons, prs_app]
theorem itL_end (o : List Nat × Nat) (ws : List (List Nat)) : (if ws.length = 0 then prt (itL o 0 ws) 45 else itL o 0 ws) = prs o (jnI ws) := by
  cases ws with
  | nil => rfl
  | cons w ws => rw [if_neg (by simp), itL, if_neg (by omega), itL_pos, jnI, prs_app]
theorem Pr.ap {G : GG} {g : GH} {pa pl pb it a t b u cap : Nat} {o : List Nat × Nat} {xs : List Nat} (h : Pr G g pa pl pb o it) (hr : Lt G g a t b u cap xs) (ht : t ∉ [4, 5, 6]) (hu : u ∉ [4, 5, 6]) : a ∉ [pa, pl, pb] ∧ b ∉ [pa, pl, pb] := by
  obtain ⟨f, ⟨k1, k2, -⟩, -⟩ := hr
  obtain ⟨j0, f2, ⟨j1, j2, -⟩, -⟩ := h
  simp at ht hu
  have n1 := gh_ne k1 j0 (by omega)
  have n2 := gh_ne k1 j1 (by omega)
  have n3 := gh_ne k1 j2 (by omega)
  have n4 := gh_ne k2 j0 (by omega)
  have n5 := gh_ne k2 j1 (by omega)
  have n6 := gh_ne k2 j2 (by omega)
  exact ⟨by simp [n1, n2, n3], by simp [n4, n5, n6]⟩
/-- the words that begin with w, as long as they stand together -/
def lkW (w : List Nat) : List (Nat × List Nat × Nat) → List (List Nat)
  | [] => []
  | x :: l => if bgO x.2.1 w = true then x.2.1 :: lkW w l else []
set_option maxRecDepth 20000 in
set_option maxHeartbeats 4000000 in
theorem c_SD_doLook (l : Launch) (G : GG) {g : GH} {A : Nat → Nat} {es : List (Nat × List Nat × Nat)} {us1 us2 : List (Nat × RuR)} {tx : List Nat} {o : List Nat × Nat} {it : Nat} {ls le s e wf wl : Nat} (h : SDr G g A es us1 us2 tx) (hP : Pr G g (A 4) (A 5) (A 6) o 0) (hL : Ln g (A 3) (A 1) ls le s e wf wl) (he : e ≤ le) (hle : le ≤ tx.length) : gMet l G y_SD_doLook b_SD_doLook 4 (some .boolean) (rmk 4 0 0 92) [.ref (A 0)] g (DoP G A tx ls le g (owO tx 16 le e) (owS tx 16 le e) es us1 us2 (if (owO tx 16 le e) = true then prs o (jnI (lkW (nxW tx le e) (es.drop (rnkL (nxW tx le e) (dws es))))) else o)) := by
  refine gMet.of [some (.ref (A 0)), none, none, none] (by decide +kernel) rfl (Nat.le_of_ble_eq_true rfl) rfl (fun X hK hI hE => ?_)
  refine gh_aload_n hK d_SD_doLook_0 rfl ?_
  refine gh_get hK d_SD_doLook_1 in_SD rfl h.1.1 1 (by decide) kf_SD_23 rfl rfl ?_
  refine gh_bipush (v := nI 16) hK d_SD_doLook_4 (by decide) ?_
  refine gh_callV (rest := []) [.int (nI 16)] hK (c_Ln_nextIsOnlyWord l G hL h.2.1.2.2.2 (k := 16) he hle (by decide)) Y_Ln_nextIsOnlyWord V_Ln_nextIsOnlyWord km_SD_228 hL rfl rfl d_SD_doLook_6 rfl rfl (Nat.le_of_ble_eq_true rfl) ⟨(Nat.le_of_ble_eq_true rfl), (Nat.le_of_ble_eq_true rfl)⟩ ⟨(Nat.le_of_ble_eq_true rfl), (Nat.le_of_ble_eq_true rfl)⟩ (fun v g1 hp => ?_)
  obtain ⟨rfl, hl1, hlN⟩ := hp
  show gh_W l G _ X g1 _ _ [some (.ref (A 0)), none, none, none] 9 [.int (nI (bn (owO tx 16 le e)))]
  have hM1 := hL.toM hlN
  have h1 := h.M hM1 (by decide)
  have hP1 := hP.M hM1 (by decide) (by decide) (by decide)
  obtain ⟨b1, b2⟩ := nxS_le (tx := tx) he
  obtain ⟨b3, b4⟩ := nxE_le (tx := tx) he
  refine gh_if_neB hK d_SD_doLook_9 (tgt := 14) (by decide) (fun z => ?_) (fun z => ?_)
  · simp only [z, ↓reduceIte] at hE
    obtain ⟨w1, w2, w3, w4, w5⟩ := ow_true (wf := wf) (wl := wl) z
    rw [w2, w3] at hl1
    have hfl : nxS tx le e + (nxE tx le e - nxS tx le e) ≤ tx.length := by omega
    refine gh_aload_n hK d_SD_doLook_14 rfl ?_
    refine gh_get hK d_SD_doLook_15 in_SD rfl h1.1.1 3 (by decide) kf_SD_37 rfl rfl ?_
    refine gh_aload_n hK d_SD_doLook_18 rfl ?_
    refine gh_get hK d_SD_doLook_19 in_SD rfl h1.1.1 0 (by decide) kf_SD_14 rfl rfl ?_
    refine gh_aload_n hK d_SD_doLook_22 rfl ?_
    refine gh_get hK d_SD_doLook_23 in_SD rfl h1.1.1 1 (by decide) kf_SD_23 rfl rfl ?_
    refine gh_callV (rest := [.ref (A 1), .ref (A 7)]) [] hK (c_Ln_wordFrom l G hl1) Y_Ln_wordFrom V_Ln_wordFrom km_SD_232 hl1 rfl rfl d_SD_doLook_26 rfl rfl (Nat.le_of_ble_eq_true rfl) ⟨(Nat.le_of_ble_eq_true rfl), (Nat.le_of_ble_eq_true rfl)⟩ ⟨(Nat.le_of_ble_eq_true rfl), (Nat.le_of_ble_eq_true rfl)⟩ (fun v g' hp => ?_)
    rw [hp.1, hp.2]
    show gh_W l G _ X g1 _ _ [some (.ref (A 0)), none, none, none] 29 [.int (nI (nxS tx le e)), .ref (A 1), .ref (A 7)]
    refine gh_aload_n hK d_SD_doLook_29 rfl ?_
    refine gh_get hK d_SD_doLook_30 in_SD rfl h1.1.1 1 (by decide) kf_SD_23 rfl rfl ?_
    refine gh_callV (rest := [.int (nI (nxS tx le e)), .ref (A 1), .ref (A 7)]) [] hK (c_Ln_wordLength l G hl1) Y_Ln_wordLength V_Ln_wordLength km_SD_235 hl1 rfl rfl d_SD_doLook_33 rfl rfl (Nat.le_of_ble_eq_true rfl) ⟨(Nat.le_of_ble_eq_true rfl), (Nat.le_of_ble_eq_true rfl)⟩ ⟨(Nat.le_of_ble_eq_true rfl), (Nat.le_of_ble_eq_true rfl)⟩ (fun v g' hp => ?_)
    rw [hp.1, hp.2]
    show gh_W l G _ X g1 _ _ [some (.ref (A 0)), none, none, none] 36 [.int (nI (nxE tx le e - nxS tx le e)), .int (nI (nxS tx le e)), .ref (A 1), .ref (A 7)]
    refine gh_callV (rest := []) [.ref (A 1), .int (nI (nxS tx le e)), .int (nI (nxE tx le e - nxS tx le e))] hK (c_Dc_rankOf l G h1.2.1.1 h1.2.2.1.1 h1.2.1.2.2.2 (fr := nxS tx le e) (len := nxE tx le e - nxS tx le e) hfl) Y_Dc_rankOf V_Dc_rankOf km_SD_200 h1.2.1.1.1 rfl rfl d_SD_doLook_36 rfl rfl (Nat.le_of_ble_eq_true rfl) ⟨(Nat.le_of_ble_eq_true rfl), (Nat.le_of_ble_eq_true rfl)⟩ ⟨(Nat.le_of_ble_eq_true rfl), (Nat.le_of_ble_eq_true rfl)⟩ (fun v g' hp => ?_)
    rw [hp.1, hp.2]
    show gh_W l G _ X g1 _ _ [some (.ref (A 0)), none, none, none] 39 [.int (nI (rnkL (nxW tx le e) (dws es)))]
    refine gh_istore_n (lv' := [some (.ref (A 0)), some (.int (nI (rnkL (nxW tx le e) (dws es)))), none, none]) hK d_SD_doLook_39 (Nat.le_of_ble_eq_true rfl) rfl ?_
    refine gh_iload_n hK d_SD_doLook_40 rfl ?_
    refine gh_istore_n (lv' := [some (.ref (A 0)), some (.int (nI (rnkL (nxW tx le e) (dws es)))), some (.int (nI (rnkL (nxW tx le e) (dws es)))), none]) hK d_SD_doLook_41 (Nat.le_of_ble_eq_true rfl) rfl ?_
    have hrk := rnkd_le es (nxW tx le e)
    have hes := h1.2.2.1.2.1
    have fin : ∀ (i it2 : Nat) (g2 : GH) (o2 : List Nat × Nat) (o3 : Option Value), it2 ≤ 300 → Pr G g2 (A 4) (A 5) (A 6) o2 it2 → gh_M [4, 5, 6] g1 g2 → (if it2 = 0 then prt o2 45 else o2) = prs o (jnI (lkW (nxW tx le e) (es.drop (rnkL (nxW tx le e) (dws es))))) → gh_W l G (rmk 4 0 0 92) X g2 0 0 [some (.ref (A 0)), some (.int (nI (rnkL (nxW tx le e) (dws es)))), some (.int (nI i)), o3] 119 [] := by
      intro i it2 g2 o2 o3 hit hP2 m2 hF
      have h2 := h1.M m2 (by decide)
      refine gh_aload_n hK d_SD_doLook_119 rfl ?_
      refine gh_get hK d_SD_doLook_120 in_SD rfl h2.1.1 2 (by decide) kf_SD_30 rfl rfl ?_
      refine gh_callV (rest := []) [] hK (c_Pr_endItems l G hP2 (by omega)) Y_Pr_endItems V_Pr_endItems km_SD_294 hP2.1 rfl rfl d_SD_doLook_123 rfl rfl (Nat.le_of_ble_eq_true rfl) ⟨(Nat.le_of_ble_eq_true rfl), (Nat.le_of_ble_eq_true rfl)⟩ ⟨(Nat.le_of_ble_eq_true rfl), (Nat.le_of_ble_eq_true rfl)⟩ (fun v g3 hp => ?_)
      obtain ⟨rfl, hq1, hq2⟩ := hp
      show gh_W l G _ X g3 _ _ [some (.ref (A 0)), some (.int (nI (rnkL (nxW tx le e) (dws es)))), some (.int (nI i)), o3] 126 []
      refine gh_iconst (v := nI 1) hK d_SD_doLook_126 (by decide) ?_
      have m3 := hP2.toM hq2
      rw [hF] at hq1
      exact gh_zret rfl hK hE d_SD_doLook_127 (Nat.le_of_ble_eq_true rfl) (Nat.le_of_ble_eq_true rfl) ⟨rfl, ⟨_, _, _, _, (hl1.M m2 (by decide)).M m3 (by decide), fun q => by cases q⟩, h2.M m3 (by decide), ⟨_, hq1⟩, ((hM1.wd (by decide)).tr (m2.wd (by decide))).tr (m3.wd (by decide))⟩
    have loop : ∀ (m i it2 : Nat) (g2 : GH) (o2 : List Nat × Nat) (o3 : Option Value), i + m = es.length → it2 ≤ i → Pr G g2 (A 4) (A 5) (A 6) o2 it2 → gh_M [4, 5, 6] g1 g2 → (if it2 + (lkW (nxW tx le e) (es.drop i)).length = 0 then prt (itL o2 it2 (lkW (nxW tx le e) (es.drop i))) 45 else itL o2 it2 (lkW (nxW tx le e) (es.drop i))) = prs o (jnI (lkW (nxW tx le e) (es.drop (rnkL (nxW tx le e) (dws es))))) → gh_W l G (rmk 4 0 0 92) X g2 0 0 [some (.ref (A 0)), some (.int (nI (rnkL (nxW tx le e) (dws es)))), some (.int (nI i)), o3] 42 [] := by
      intro m
      induction m with
      | zero =>
        intro i it2 g2 o2 o3 hi hit hP2 m2 hF
        have h2 := h1.M m2 (by decide)
        have hdr : es.drop i = [] := List.drop_eq_nil_of_le (by omega)
        rw [hdr] at hF
        refine gh_iload_n hK d_SD_doLook_42 rfl ?_
        refine gh_aload_n hK d_SD_doLook_43 rfl ?_
        refine gh_get hK d_SD_doLook_44 in_SD rfl h2.1.1 3 (by decide) kf_SD_37 rfl rfl ?_
        refine gh_callV (rest := [.int (nI i)]) [] hK (c_Dc_count l G h2.2.1.1) Y_Dc_count V_Dc_count km_SD_111 h2.2.1.1.1 rfl rfl d_SD_doLook_47 rfl rfl (Nat.le_of_ble_eq_true rfl) ⟨(Nat.le_of_ble_eq_true rfl), (Nat.le_of_ble_eq_true rfl)⟩ ⟨(Nat.le_of_ble_eq_true rfl), (Nat.le_of_ble_eq_true rfl)⟩ (fun v g' hp => ?_)
        rw [hp.1, hp.2]
        show gh_W l G _ X g2 _ _ [some (.ref (A 0)), some (.int (nI (rnkL (nxW tx le e) (dws es)))), some (.int (nI i)), o3] 50 [.int (nI es.length), .int (nI i)]
        refine gh_icmp_geN hK d_SD_doLook_50 (tgt := 119) (by decide) (by omega) (by omega) (fun z => ?_) (fun z => absurd z (by omega))
        exact fin i it2 g2 o2 o3 (by omega) hP2 m2 hF
      | succ m ih =>
        intro i it2 g2 o2 o3 hi hit hP2 m2 hF
        have h2 := h1.M m2 (by decide)
        have hL2 := hl1.M m2 (by decide)
        obtain ⟨x, hx⟩ : ∃ x, es[i]? = some x := ⟨es[i], List.getElem?_eq_getElem (by omega)⟩
        have hdr : es.drop i = x :: es.drop (i + 1) := by
          rw [List.drop_eq_getElem_cons (by omega)]
          rw [List.getElem?_eq_getElem (by omega)] at hx
          rw [Option.some.inj hx]
        rw [hdr, lkW] at hF
        have hen := h2.2.1.1.2.2 x (List.mem_of_getElem? hx)
        obtain ⟨wa, wb, e1, e2⟩ := id hen
        refine gh_iload_n hK d_SD_doLook_42 rfl ?_
        refine gh_aload_n hK d_SD_doLook_43 rfl ?_
        refine gh_get hK d_SD_doLook_44 in_SD rfl h2.1.1 3 (by decide) kf_SD_37 rfl rfl ?_
        refine gh_callV (rest := [.int (nI i)]) [] hK (c_Dc_count l G h2.2.1.1) Y_Dc_count V_Dc_count km_SD_111 h2.2.1.1.1 rfl rfl d_SD_doLook_47 rfl rfl (Nat.le_of_ble_eq_true rfl) ⟨(Nat.le_of_ble_eq_true rfl), (Nat.le_of_ble_eq_true rfl)⟩ ⟨(Nat.le_of_ble_eq_true rfl), (Nat.le_of_ble_eq_true rfl)⟩ (fun v g' hp => ?_)
        rw [hp.1, hp.2]
        show gh_W l G _ X g2 _ _ [some (.ref (A 0)), some (.int (nI (rnkL (nxW tx le e) (dws es)))), some (.int (nI i)), o3] 50 [.int (nI es.length), .int (nI i)]
        refine gh_icmp_geN hK d_SD_doLook_50 (tgt := 119) (by decide) (by omega) (by omega) (fun z => absurd z (by omega)) (fun z => ?_)
        refine gh_aload_n hK d_SD_doLook_53 rfl ?_
        refine gh_get hK d_SD_doLook_54 in_SD rfl h2.1.1 3 (by decide) kf_SD_37 rfl rfl ?_
        refine gh_iload_n hK d_SD_doLook_57 rfl ?_
        refine gh_callV (rest := []) [.int (nI i)] hK (c_Dc_at l G h2.2.1.1 (j := i) (by omega)) Y_Dc_at1 V_Dc_at1 km_SD_297 h2.2.1.1.1 rfl rfl d_SD_doLook_58 rfl rfl (Nat.le_of_ble_eq_true rfl) ⟨(Nat.le_of_ble_eq_true rfl), (Nat.le_of_ble_eq_true rfl)⟩ ⟨(Nat.le_of_ble_eq_true rfl), (Nat.le_of_ble_eq_true rfl)⟩ (fun v g' hp => ?_)
        rw [hp.1 x hx, hp.2.2]
        show gh_W l G _ X g2 _ _ [some (.ref (A 0)), some (.int (nI (rnkL (nxW tx le e) (dws es)))), some (.int (nI i)), o3] 61 [.ref x.1]
        refine gh_astore_n (lv' := [some (.ref (A 0)), some (.int (nI (rnkL (nxW tx le e) (dws es)))), some (.int (nI i)), some (.ref x.1)]) hK d_SD_doLook_61 (Nat.le_of_ble_eq_true rfl) rfl ?_
        refine gh_aload_n hK d_SD_doLook_62 rfl ?_
        refine gh_ifnull hK d_SD_doLook_63 ?_
        refine gh_aload_n hK d_SD_doLook_66 rfl ?_
        refine gh_aload_n hK d_SD_doLook_67 rfl ?_
        refine gh_get hK d_SD_doLook_68 in_SD rfl h2.1.1 0 (by decide) kf_SD_14 rfl rfl ?_
        refine gh_aload_n hK d_SD_doLook_71 rfl ?_
        refine gh_get hK d_SD_doLook_72 in_SD rfl h2.1.1 1 (by decide) kf_SD_23 rfl rfl ?_
        refine gh_callV (rest := [.ref (A 1), .ref x.1]) [] hK (c_Ln_wordFrom l G hL2) Y_Ln_wordFrom V_Ln_wordFrom km_SD_232 hL2 rfl rfl d_SD_doLook_75 rfl rfl (Nat.le_of_ble_eq_true rfl) ⟨(Nat.le_of_ble_eq_true rfl), (Nat.le_of_ble_eq_true rfl)⟩ ⟨(Nat.le_of_ble_eq_true rfl), (Nat.le_of_ble_eq_true rfl)⟩ (fun v g' hp => ?_)
        rw [hp.1, hp.2]
        show gh_W l G _ X g2 _ _ [some (.ref (A 0)), some (.int (nI (rnkL (nxW tx le e) (dws es)))), some (.int (nI i)), some (.ref x.1)] 78 [.int (nI (nxS tx le e)), .ref (A 1), .ref x.1]
        refine gh_aload_n hK d_SD_doLook_78 rfl ?_
        refine gh_get hK d_SD_doLook_79 in_SD rfl h2.1.1 1 (by decide) kf_SD_23 rfl rfl ?_
        refine gh_callV (rest := [.int (nI (nxS tx le e)), .ref (A 1), .ref x.1]) [] hK (c_Ln_wordLength l G hL2) Y_Ln_wordLength V_Ln_wordLength km_SD_235 hL2 rfl rfl d_SD_doLook_82 rfl rfl (Nat.le_of_ble_eq_true rfl) ⟨(Nat.le_of_ble_eq_true rfl), (Nat.le_of_ble_eq_true rfl)⟩ ⟨(Nat.le_of_ble_eq_true rfl), (Nat.le_of_ble_eq_true rfl)⟩ (fun v g' hp => ?_)
        rw [hp.1, hp.2]
        show gh_W l G _ X g2 _ _ [some (.ref (A 0)), some (.int (nI (rnkL (nxW tx le e) (dws es)))), some (.int (nI i)), some (.ref x.1)] 85 [.int (nI (nxE tx le e - nxS tx le e)), .int (nI (nxS tx le e)), .ref (A 1), .ref x.1]
        refine gh_callV (rest := []) [.ref (A 1), .int (nI (nxS tx le e)), .int (nI (nxE tx le e - nxS tx le e))] hK (c_En_beginsWith l G hen h2.2.1.2.2.2 (fr := nxS tx le e) (len := nxE tx le e - nxS tx le e) hfl) Y_En_beginsWith V_En_beginsWith km_SD_300 e1 rfl rfl d_SD_doLook_85 rfl rfl (Nat.le_of_ble_eq_true rfl) ⟨(Nat.le_of_ble_eq_true rfl), (Nat.le_of_ble_eq_true rfl)⟩ ⟨(Nat.le_of_ble_eq_true rfl), (Nat.le_of_ble_eq_true rfl)⟩ (fun v g' hp => ?_)
        rw [hp.1, hp.2]
        show gh_W l G _ X g2 _ _ [some (.ref (A 0)), some (.int (nI (rnkL (nxW tx le e) (dws es)))), some (.int (nI i)), some (.ref x.1)] 88 [.int (nI (bn (bgO x.2.1 (nxW tx le e))))]
        refine gh_if_neB hK d_SD_doLook_88 (tgt := 94) (by decide) (fun z3 => ?_) (fun z3 => ?_)
        · rw [if_pos z3, List.length_cons, itL] at hF
          refine gh_aload_n hK d_SD_doLook_94 rfl ?_
          refine gh_get hK d_SD_doLook_95 in_SD rfl h2.1.1 2 (by decide) kf_SD_30 rfl rfl ?_
          refine gh_aload_n hK d_SD_doLook_98 rfl ?_
          refine gh_get hK d_SD_doLook_99 in_En rfl e1 0 (by decide) kf_SD_304 rfl rfl ?_
          refine gh_iconst (v := nI 0) hK d_SD_doLook_102 (by decide) ?_
          refine gh_aload_n hK d_SD_doLook_103 rfl ?_
          refine gh_get hK d_SD_doLook_104 in_En rfl e1 0 (by decide) kf_SD_304 rfl rfl ?_
          refine gh_callV (rest := [.int (nI 0), .ref wa, .ref (A 4)]) [] hK (c_Lt_count l G e2) Y_Lt_count V_Lt_count km_SD_75 e2.ob rfl rfl d_SD_doLook_107 rfl rfl (Nat.le_of_ble_eq_true rfl) ⟨(Nat.le_of_ble_eq_true rfl), (Nat.le_of_ble_eq_true rfl)⟩ ⟨(Nat.le_of_ble_eq_true rfl), (Nat.le_of_ble_eq_true rfl)⟩ (fun v g' hp => ?_)
          rw [hp.1, hp.2]
          show gh_W l G _ X g2 _ _ [some (.ref (A 0)), some (.int (nI (rnkL (nxW tx le e) (dws es)))), some (.int (nI i)), some (.ref x.1)] 110 [.int (nI x.2.1.length), .int (nI 0), .ref wa, .ref (A 4)]
          obtain ⟨a1, a2⟩ := hP2.ap e2 (by decide) (by decide)
          refine gh_callV (rest := []) [.ref wa, .int (nI 0), .int (nI x.2.1.length)] hK (c_Pr_printItem l G hP2 (by omega) e2 a1 a2 (fr := 0) (len := x.2.1.length) (by omega)) Y_Pr_printItem V_Pr_printItem km_SD_290 hP2.1 rfl rfl d_SD_doLook_110 rfl rfl (Nat.le_of_ble_eq_true rfl) ⟨(Nat.le_of_ble_eq_true rfl), (Nat.le_of_ble_eq_true rfl)⟩ ⟨(Nat.le_of_ble_eq_true rfl), (Nat.le_of_ble_eq_true rfl)⟩ (fun v g3 hp => ?_)
          obtain ⟨rfl, hq1, hq2⟩ := hp
          show gh_W l G _ X g3 _ _ [some (.ref (A 0)), some (.int (nI (rnkL (nxW tx le e) (dws es)))), some (.int (nI i)), some (.ref x.1)] 113 []
          refine gh_incN (lv' := [some (.ref (A 0)), some (.int (nI (rnkL (nxW tx le e) (dws es)))), some (.int (nI (i + 1))), some (.ref x.1)]) hK d_SD_doLook_113 rfl rfl ?_
          refine gh_goto (tgt := 42) hK d_SD_doLook_116 (by decide) ?_
          rw [List.drop_zero, List.take_length] at hq1
          refine ih (i + 1) (it2 + 1) g3 _ _ (by omega) (by omega) hq1 (m2.tr (hP2.toM hq2)) ?_
          rw [show it2 + 1 + (lkW (nxW tx le e) (es.drop (i + 1))).length = it2 + ((lkW (nxW tx le e) (es.drop (i + 1))).length + 1) by omega]
          exact hF
        · simp only [z3, Bool.false_eq_true, ↓reduceIte, List.length_nil, Nat.add_zero, itL] at hF
          refine gh_goto (tgt := 119) hK d_SD_doLook_91 (by decide) ?_
          exact fin i it2 g2 o2 _ (by omega) hP2 m2 hF
    exact loop (es.length - (rnkL (nxW tx le e) (dws es))) (rnkL (nxW tx le e) (dws es)) 0 g1 o none (by omega) (by omega) hP1 gh_M.rf (by rw [Nat.zero_add]; exact itL_end o _)
  · refine gh_iconst (v := nI 0) hK d_SD_doLook_12 (by decide) ?_
    simp only [z, Bool.false_eq_true, ↓reduceIte] at hE
    exact gh_zret rfl hK hE d_SD_doLook_13 (Nat.le_of_ble_eq_true rfl) (Nat.le_of_ble_eq_true rfl) (DoP.no h hP hL hl1 hlN rfl)
end
