section
-- ===== PART A: goes FIRST, ahead of the names: the tables' words, and 'selects' of the private methods out of them =====
/-- a private method of a class that the tables say can be made, by its rows of tables_1 -/
def lw_okq (q : MethodName × Nat) : Prop := (q.1.cls ≠ "java/lang/invoke/MethodHandle" ∧ q.1.cls ≠ "java/lang/invoke/VarHandle") ∧ Cond.instantiable q.1.cls q.2 ∈ tables_1 ∧ Cond.privateMethod q.1 ∈ tables_1 ∧ Cond.instanceMethod q.1 ∈ tables_1
theorem lw_p0 : lw_okq (⟨"YardTalk", "stopFilm", "()V"⟩, 18) := ⟨⟨by decide +kernel, by decide +kernel⟩, List.mem_of_getElem? (i := 24) (by decide +kernel), List.mem_of_getElem? (i := 370) (by decide +kernel), List.mem_of_getElem? (i := 371) (by decide +kernel)⟩
theorem lw_p1 : lw_okq (⟨"YardTalk", "putBytes", "(I)V"⟩, 18) := ⟨⟨by decide +kernel, by decide +kernel⟩, List.mem_of_getElem? (i := 24) (by decide +kernel), List.mem_of_getElem? (i := 378) (by decide +kernel), List.mem_of_getElem? (i := 379) (by decide +kernel)⟩
theorem lw_p2 : lw_okq (⟨"YardTalk", "countAlike", "(LYardTalk$Film;I)I"⟩, 18) := ⟨⟨by decide +kernel, by decide +kernel⟩, List.mem_of_getElem? (i := 24) (by decide +kernel), List.mem_of_getElem? (i := 409) (by decide +kernel), List.mem_of_getElem? (i := 410) (by decide +kernel)⟩
theorem lw_p3 : lw_okq (⟨"YardTalk", "lawOf", "(I)LYardTalk$Law;"⟩, 18) := ⟨⟨by decide +kernel, by decide +kernel⟩, List.mem_of_getElem? (i := 24) (by decide +kernel), List.mem_of_getElem? (i := 414) (by decide +kernel), List.mem_of_getElem? (i := 415) (by decide +kernel)⟩
theorem lw_p4 : lw_okq (⟨"YardTalk$Speech", "conceptMeant", "(I)I"⟩, 10) := ⟨⟨by decide +kernel, by decide +kernel⟩, List.mem_of_getElem? (i := 149) (by decide +kernel), List.mem_of_getElem? (i := 457) (by decide +kernel), List.mem_of_getElem? (i := 458) (by decide +kernel)⟩
theorem lw_p5 : lw_okq (⟨"YardTalk$Speech", "guessPart", "(LYardTalk$World;II)I"⟩, 10) := ⟨⟨by decide +kernel, by decide +kernel⟩, List.mem_of_getElem? (i := 149) (by decide +kernel), List.mem_of_getElem? (i := 484) (by decide +kernel), List.mem_of_getElem? (i := 485) (by decide +kernel)⟩
theorem lw_p6 : lw_okq (⟨"YardTalk$World", "areBothWorn", "(II)Z"⟩, 17) := ⟨⟨by decide +kernel, by decide +kernel⟩, List.mem_of_getElem? (i := 32) (by decide +kernel), List.mem_of_getElem? (i := 492) (by decide +kernel), List.mem_of_getElem? (i := 493) (by decide +kernel)⟩
theorem lw_p7 : lw_okq (⟨"YardTalk$Speech", "learnIn", "(LYardTalk$World;LYardTalk$Ruling;)V"⟩, 10) := ⟨⟨by decide +kernel, by decide +kernel⟩, List.mem_of_getElem? (i := 149) (by decide +kernel), List.mem_of_getElem? (i := 497) (by decide +kernel), List.mem_of_getElem? (i := 498) (by decide +kernel)⟩
theorem lw_p8 : lw_okq (⟨"YardTalk$Speech", "learnSign", "(LYardTalk$World;LYardTalk$Ruling;II)V"⟩, 10) := ⟨⟨by decide +kernel, by decide +kernel⟩, List.mem_of_getElem? (i := 149) (by decide +kernel), List.mem_of_getElem? (i := 522) (by decide +kernel), List.mem_of_getElem? (i := 523) (by decide +kernel)⟩
theorem lw_p9 : lw_okq (⟨"YardTalk$Speech", "learnOrder", "(LYardTalk$World;LYardTalk$Ruling;)V"⟩, 10) := ⟨⟨by decide +kernel, by decide +kernel⟩, List.mem_of_getElem? (i := 149) (by decide +kernel), List.mem_of_getElem? (i := 554) (by decide +kernel), List.mem_of_getElem? (i := 555) (by decide +kernel)⟩
theorem lw_p10 : lw_okq (⟨"YardTalk$Speech", "strengthenIn", "(LYardTalk$World;)V"⟩, 10) := ⟨⟨by decide +kernel, by decide +kernel⟩, List.mem_of_getElem? (i := 149) (by decide +kernel), List.mem_of_getElem? (i := 562) (by decide +kernel), List.mem_of_getElem? (i := 563) (by decide +kernel)⟩
theorem lw_p11 : lw_okq (⟨"java/lang/Throwable", "fillInStackTrace", "(I)Ljava/lang/Throwable;"⟩, 6) := ⟨⟨by decide +kernel, by decide +kernel⟩, List.mem_of_getElem? (i := 641) (by decide +kernel), List.mem_of_getElem? (i := 639) (by decide +kernel), List.mem_of_getElem? (i := 640) (by decide +kernel)⟩
theorem lw_p12 : lw_okq (⟨"YardTalk$World", "giveFirstWeights", "(I)V"⟩, 17) := ⟨⟨by decide +kernel, by decide +kernel⟩, List.mem_of_getElem? (i := 32) (by decide +kernel), List.mem_of_getElem? (i := 676) (by decide +kernel), List.mem_of_getElem? (i := 677) (by decide +kernel)⟩
theorem lw_p13 : lw_okq (⟨"YardTalk", "checkChild", "(I)V"⟩, 18) := ⟨⟨by decide +kernel, by decide +kernel⟩, List.mem_of_getElem? (i := 24) (by decide +kernel), List.mem_of_getElem? (i := 688) (by decide +kernel), List.mem_of_getElem? (i := 689) (by decide +kernel)⟩
theorem lw_p14 : lw_okq (⟨"YardTalk", "countOrdersHeld", "(I)I"⟩, 18) := ⟨⟨by decide +kernel, by decide +kernel⟩, List.mem_of_getElem? (i := 24) (by decide +kernel), List.mem_of_getElem? (i := 723) (by decide +kernel), List.mem_of_getElem? (i := 724) (by decide +kernel)⟩
theorem lw_p15 : lw_okq (⟨"YardTalk", "useLawInForce", "()V"⟩, 18) := ⟨⟨by decide +kernel, by decide +kernel⟩, List.mem_of_getElem? (i := 24) (by decide +kernel), List.mem_of_getElem? (i := 727) (by decide +kernel), List.mem_of_getElem? (i := 728) (by decide +kernel)⟩
def lw_privs_1 : List (MethodName × Nat) := [(⟨"YardTalk", "stopFilm", "()V"⟩, 18), (⟨"YardTalk", "putBytes", "(I)V"⟩, 18), (⟨"YardTalk", "countAlike", "(LYardTalk$Film;I)I"⟩, 18), (⟨"YardTalk", "lawOf", "(I)LYardTalk$Law;"⟩, 18), (⟨"YardTalk$Speech", "conceptMeant", "(I)I"⟩, 10), (⟨"YardTalk$Speech", "guessPart", "(LYardTalk$World;II)I"⟩, 10), (⟨"YardTalk$World", "areBothWorn", "(II)Z"⟩, 17), (⟨"YardTalk$Speech", "learnIn", "(LYardTalk$World;LYardTalk$Ruling;)V"⟩, 10), (⟨"YardTalk$Speech", "learnSign", "(LYardTalk$World;LYardTalk$Ruling;II)V"⟩, 10), (⟨"YardTalk$Speech", "learnOrder", "(LYardTalk$World;LYardTalk$Ruling;)V"⟩, 10), (⟨"YardTalk$Speech", "strengthenIn", "(LYardTalk$World;)V"⟩, 10), (⟨"java/lang/Throwable", "fillInStackTrace", "(I)Ljava/lang/Throwable;"⟩, 6), (⟨"YardTalk$World", "giveFirstWeights", "(I)V"⟩, 17), (⟨"YardTalk", "checkChild", "(I)V"⟩, 18), (⟨"YardTalk", "countOrdersHeld", "(I)I"⟩, 18), (⟨"YardTalk", "useLawInForce", "()V"⟩, 18)]
theorem lw_r1 : ∀ q ∈ lw_privs_1, lw_okq q := List.forall_mem_cons.mpr ⟨lw_p0, List.forall_mem_cons.mpr ⟨lw_p1, List.forall_mem_cons.mpr ⟨lw_p2, List.forall_mem_cons.mpr ⟨lw_p3, List.forall_mem_cons.mpr ⟨lw_p4, List.forall_mem_cons.mpr ⟨lw_p5, List.forall_mem_cons.mpr ⟨lw_p6, List.forall_mem_cons.mpr ⟨lw_p7, List.forall_mem_cons.mpr ⟨lw_p8, List.forall_mem_cons.mpr ⟨lw_p9, List.forall_mem_cons.mpr ⟨lw_p10, List.forall_mem_cons.mpr ⟨lw_p11, List.forall_mem_cons.mpr ⟨lw_p12, List.forall_mem_cons.mpr ⟨lw_p13, List.forall_mem_cons.mpr ⟨lw_p14, List.forall_mem_cons.mpr ⟨lw_p15, fun _ h => absurd h List.not_mem_nil⟩⟩⟩⟩⟩⟩⟩⟩⟩⟩⟩⟩⟩⟩⟩⟩
theorem lw_p16 : lw_okq (⟨"YardTalk$LawReader", "step", "()V"⟩, 9) := ⟨⟨by decide +kernel, by decide +kernel⟩, List.mem_of_getElem? (i := 218) (by decide +kernel), List.mem_of_getElem? (i := 823) (by decide +kernel), List.mem_of_getElem? (i := 824) (by decide +kernel)⟩
theorem lw_p17 : lw_okq (⟨"YardTalk$LawReader", "readNumber", "()V"⟩, 9) := ⟨⟨by decide +kernel, by decide +kernel⟩, List.mem_of_getElem? (i := 218) (by decide +kernel), List.mem_of_getElem? (i := 830) (by decide +kernel), List.mem_of_getElem? (i := 831) (by decide +kernel)⟩
theorem lw_p18 : lw_okq (⟨"YardTalk$LawReader", "readClause", "(I)Z"⟩, 9) := ⟨⟨by decide +kernel, by decide +kernel⟩, List.mem_of_getElem? (i := 218) (by decide +kernel), List.mem_of_getElem? (i := 837) (by decide +kernel), List.mem_of_getElem? (i := 838) (by decide +kernel)⟩
theorem lw_p19 : lw_okq (⟨"YardTalk$LawReader", "clauseWord", "()I"⟩, 9) := ⟨⟨by decide +kernel, by decide +kernel⟩, List.mem_of_getElem? (i := 218) (by decide +kernel), List.mem_of_getElem? (i := 841) (by decide +kernel), List.mem_of_getElem? (i := 842) (by decide +kernel)⟩
theorem lw_p20 : lw_okq (⟨"YardTalk$LawReader", "isAt", "(Ljava/lang/String;)Z"⟩, 9) := ⟨⟨by decide +kernel, by decide +kernel⟩, List.mem_of_getElem? (i := 218) (by decide +kernel), List.mem_of_getElem? (i := 846) (by decide +kernel), List.mem_of_getElem? (i := 847) (by decide +kernel)⟩
theorem lw_p21 : lw_okq (⟨"YardTalk$LawReader", "refuse", "(I)Z"⟩, 9) := ⟨⟨by decide +kernel, by decide +kernel⟩, List.mem_of_getElem? (i := 218) (by decide +kernel), List.mem_of_getElem? (i := 901) (by decide +kernel), List.mem_of_getElem? (i := 902) (by decide +kernel)⟩
theorem lw_p22 : lw_okq (⟨"YardTalk$LawReader", "readSum", "(I)Z"⟩, 9) := ⟨⟨by decide +kernel, by decide +kernel⟩, List.mem_of_getElem? (i := 218) (by decide +kernel), List.mem_of_getElem? (i := 909) (by decide +kernel), List.mem_of_getElem? (i := 910) (by decide +kernel)⟩
theorem lw_p23 : lw_okq (⟨"YardTalk$LawReader", "readProduct", "(I)Z"⟩, 9) := ⟨⟨by decide +kernel, by decide +kernel⟩, List.mem_of_getElem? (i := 218) (by decide +kernel), List.mem_of_getElem? (i := 913) (by decide +kernel), List.mem_of_getElem? (i := 914) (by decide +kernel)⟩
theorem lw_p24 : lw_okq (⟨"YardTalk$LawReader", "readUnit", "(I)Z"⟩, 9) := ⟨⟨by decide +kernel, by decide +kernel⟩, List.mem_of_getElem? (i := 218) (by decide +kernel), List.mem_of_getElem? (i := 917) (by decide +kernel), List.mem_of_getElem? (i := 918) (by decide +kernel)⟩
theorem lw_p25 : lw_okq (⟨"YardTalk$LawReader", "isAt", "(C)Z"⟩, 9) := ⟨⟨by decide +kernel, by decide +kernel⟩, List.mem_of_getElem? (i := 218) (by decide +kernel), List.mem_of_getElem? (i := 925) (by decide +kernel), List.mem_of_getElem? (i := 926) (by decide +kernel)⟩
theorem lw_p26 : lw_okq (⟨"YardTalk$LawReader", "passOpening", "(CI)Z"⟩, 9) := ⟨⟨by decide +kernel, by decide +kernel⟩, List.mem_of_getElem? (i := 218) (by decide +kernel), List.mem_of_getElem? (i := 929) (by decide +kernel), List.mem_of_getElem? (i := 930) (by decide +kernel)⟩
theorem lw_p27 : lw_okq (⟨"YardTalk$LawReader", "pass", "(C)Z"⟩, 9) := ⟨⟨by decide +kernel, by decide +kernel⟩, List.mem_of_getElem? (i := 218) (by decide +kernel), List.mem_of_getElem? (i := 933) (by decide +kernel), List.mem_of_getElem? (i := 934) (by decide +kernel)⟩
theorem lw_p28 : lw_okq (⟨"YardTalk$LawReader", "readCouple", "(II)Z"⟩, 9) := ⟨⟨by decide +kernel, by decide +kernel⟩, List.mem_of_getElem? (i := 218) (by decide +kernel), List.mem_of_getElem? (i := 938) (by decide +kernel), List.mem_of_getElem? (i := 939) (by decide +kernel)⟩
theorem lw_p29 : lw_okq (⟨"YardTalk$LawReader", "factName", "()I"⟩, 9) := ⟨⟨by decide +kernel, by decide +kernel⟩, List.mem_of_getElem? (i := 218) (by decide +kernel), List.mem_of_getElem? (i := 943) (by decide +kernel), List.mem_of_getElem? (i := 944) (by decide +kernel)⟩
theorem lw_p30 : lw_okq (⟨"YardTalk$LawReader", "readEither", "(I)Z"⟩, 9) := ⟨⟨by decide +kernel, by decide +kernel⟩, List.mem_of_getElem? (i := 218) (by decide +kernel), List.mem_of_getElem? (i := 958) (by decide +kernel), List.mem_of_getElem? (i := 959) (by decide +kernel)⟩
theorem lw_p31 : lw_okq (⟨"YardTalk$LawReader", "readBoth", "(I)Z"⟩, 9) := ⟨⟨by decide +kernel, by decide +kernel⟩, List.mem_of_getElem? (i := 218) (by decide +kernel), List.mem_of_getElem? (i := 962) (by decide +kernel), List.mem_of_getElem? (i := 963) (by decide +kernel)⟩
def lw_privs_2 : List (MethodName × Nat) := [(⟨"YardTalk$LawReader", "step", "()V"⟩, 9), (⟨"YardTalk$LawReader", "readNumber", "()V"⟩, 9), (⟨"YardTalk$LawReader", "readClause", "(I)Z"⟩, 9), (⟨"YardTalk$LawReader", "clauseWord", "()I"⟩, 9), (⟨"YardTalk$LawReader", "isAt", "(Ljava/lang/String;)Z"⟩, 9), (⟨"YardTalk$LawReader", "refuse", "(I)Z"⟩, 9), (⟨"YardTalk$LawReader", "readSum", "(I)Z"⟩, 9), (⟨"YardTalk$LawReader", "readProduct", "(I)Z"⟩, 9), (⟨"YardTalk$LawReader", "readUnit", "(I)Z"⟩, 9), (⟨"YardTalk$LawReader", "isAt", "(C)Z"⟩, 9), (⟨"YardTalk$LawReader", "passOpening", "(CI)Z"⟩, 9), (⟨"YardTalk$LawReader", "pass", "(C)Z"⟩, 9), (⟨"YardTalk$LawReader", "readCouple", "(II)Z"⟩, 9), (⟨"YardTalk$LawReader", "factName", "()I"⟩, 9), (⟨"YardTalk$LawReader", "readEither", "(I)Z"⟩, 9), (⟨"YardTalk$LawReader", "readBoth", "(I)Z"⟩, 9)]
theorem lw_r2 : ∀ q ∈ lw_privs_2, lw_okq q := List.forall_mem_cons.mpr ⟨lw_p16, List.forall_mem_cons.mpr ⟨lw_p17, List.forall_mem_cons.mpr ⟨lw_p18, List.forall_mem_cons.mpr ⟨lw_p19, List.forall_mem_cons.mpr ⟨lw_p20, List.forall_mem_cons.mpr ⟨lw_p21, List.forall_mem_cons.mpr ⟨lw_p22, List.forall_mem_cons.mpr ⟨lw_p23, List.forall_mem_cons.mpr ⟨lw_p24, List.forall_mem_cons.mpr ⟨lw_p25, List.forall_mem_cons.mpr ⟨lw_p26, List.forall_mem_cons.mpr ⟨lw_p27, List.forall_mem_cons.mpr ⟨lw_p28, List.forall_mem_cons.mpr ⟨lw_p29, List.forall_mem_cons.mpr ⟨lw_p30, List.forall_mem_cons.mpr ⟨lw_p31, fun _ h => absurd h List.not_mem_nil⟩⟩⟩⟩⟩⟩⟩⟩⟩⟩⟩⟩⟩⟩⟩⟩
theorem lw_p32 : lw_okq (⟨"YardTalk$LawReader", "readBasic", "(I)Z"⟩, 9) := ⟨⟨by decide +kernel, by decide +kernel⟩, List.mem_of_getElem? (i := 218) (by decide +kernel), List.mem_of_getElem? (i := 966) (by decide +kernel), List.mem_of_getElem? (i := 967) (by decide +kernel)⟩
theorem lw_p33 : lw_okq (⟨"YardTalk$LawReader", "readComparison", "(I)Z"⟩, 9) := ⟨⟨by decide +kernel, by decide +kernel⟩, List.mem_of_getElem? (i := 218) (by decide +kernel), List.mem_of_getElem? (i := 971) (by decide +kernel), List.mem_of_getElem? (i := 972) (by decide +kernel)⟩
theorem lw_p34 : lw_okq (⟨"YardTalk", "checkLaw", "(I)V"⟩, 18) := ⟨⟨by decide +kernel, by decide +kernel⟩, List.mem_of_getElem? (i := 24) (by decide +kernel), List.mem_of_getElem? (i := 989) (by decide +kernel), List.mem_of_getElem? (i := 990) (by decide +kernel)⟩
theorem lw_p35 : lw_okq (⟨"YardTalk", "makeNotedTalk", "()V"⟩, 18) := ⟨⟨by decide +kernel, by decide +kernel⟩, List.mem_of_getElem? (i := 24) (by decide +kernel), List.mem_of_getElem? (i := 1024) (by decide +kernel), List.mem_of_getElem? (i := 1025) (by decide +kernel)⟩
theorem lw_p36 : lw_okq (⟨"YardTalk", "drawTalk", "(LYardTalk$World;I)V"⟩, 18) := ⟨⟨by decide +kernel, by decide +kernel⟩, List.mem_of_getElem? (i := 24) (by decide +kernel), List.mem_of_getElem? (i := 1052) (by decide +kernel), List.mem_of_getElem? (i := 1053) (by decide +kernel)⟩
theorem lw_p37 : lw_okq (⟨"YardTalk", "countHolders", "(LYardTalk$World;II)I"⟩, 18) := ⟨⟨by decide +kernel, by decide +kernel⟩, List.mem_of_getElem? (i := 24) (by decide +kernel), List.mem_of_getElem? (i := 1086) (by decide +kernel), List.mem_of_getElem? (i := 1087) (by decide +kernel)⟩
theorem lw_p38 : lw_okq (⟨"YardTalk", "checkFilm", "(I)V"⟩, 18) := ⟨⟨by decide +kernel, by decide +kernel⟩, List.mem_of_getElem? (i := 24) (by decide +kernel), List.mem_of_getElem? (i := 1131) (by decide +kernel), List.mem_of_getElem? (i := 1132) (by decide +kernel)⟩
theorem lw_p39 : lw_okq (⟨"YardTalk", "tryOut", "(III)I"⟩, 18) := ⟨⟨by decide +kernel, by decide +kernel⟩, List.mem_of_getElem? (i := 24) (by decide +kernel), List.mem_of_getElem? (i := 1154) (by decide +kernel), List.mem_of_getElem? (i := 1155) (by decide +kernel)⟩
theorem lw_p40 : lw_okq (⟨"YardTalk", "countUnlike", "(II)I"⟩, 18) := ⟨⟨by decide +kernel, by decide +kernel⟩, List.mem_of_getElem? (i := 24) (by decide +kernel), List.mem_of_getElem? (i := 1184) (by decide +kernel), List.mem_of_getElem? (i := 1185) (by decide +kernel)⟩
theorem lw_p41 : lw_okq (⟨"YardTalk", "countSeenAlone", "(II)I"⟩, 18) := ⟨⟨by decide +kernel, by decide +kernel⟩, List.mem_of_getElem? (i := 24) (by decide +kernel), List.mem_of_getElem? (i := 1218) (by decide +kernel), List.mem_of_getElem? (i := 1219) (by decide +kernel)⟩
theorem lw_p42 : lw_okq (⟨"YardTalk", "areBlurred", "(III)Z"⟩, 18) := ⟨⟨by decide +kernel, by decide +kernel⟩, List.mem_of_getElem? (i := 24) (by decide +kernel), List.mem_of_getElem? (i := 1241) (by decide +kernel), List.mem_of_getElem? (i := 1242) (by decide +kernel)⟩
theorem lw_p43 : lw_okq (⟨"YardTalk", "findTeacher", "(II)I"⟩, 18) := ⟨⟨by decide +kernel, by decide +kernel⟩, List.mem_of_getElem? (i := 24) (by decide +kernel), List.mem_of_getElem? (i := 1266) (by decide +kernel), List.mem_of_getElem? (i := 1267) (by decide +kernel)⟩
theorem lw_p44 : lw_okq (⟨"YardTalkModel", "ends", "()V"⟩, 56) := ⟨⟨by decide +kernel, by decide +kernel⟩, List.mem_of_getElem? (i := 1308) (by decide +kernel), List.mem_of_getElem? (i := 1487) (by decide +kernel), List.mem_of_getElem? (i := 1488) (by decide +kernel)⟩
theorem lw_p45 : lw_okq (⟨"YardTalkModel", "may", "(ZI)Z"⟩, 56) := ⟨⟨by decide +kernel, by decide +kernel⟩, List.mem_of_getElem? (i := 1308) (by decide +kernel), List.mem_of_getElem? (i := 1501) (by decide +kernel), List.mem_of_getElem? (i := 1502) (by decide +kernel)⟩
theorem lw_p46 : lw_okq (⟨"YardTalkModel", "isChild", "(I)Z"⟩, 56) := ⟨⟨by decide +kernel, by decide +kernel⟩, List.mem_of_getElem? (i := 1308) (by decide +kernel), List.mem_of_getElem? (i := 1512) (by decide +kernel), List.mem_of_getElem? (i := 1513) (by decide +kernel)⟩
theorem lw_p47 : lw_okq (⟨"YardTalkModel", "holdsNow", "(II)Z"⟩, 56) := ⟨⟨by decide +kernel, by decide +kernel⟩, List.mem_of_getElem? (i := 1308) (by decide +kernel), List.mem_of_getElem? (i := 1524) (by decide +kernel), List.mem_of_getElem? (i := 1525) (by decide +kernel)⟩
def lw_privs_3 : List (MethodName × Nat) := [(⟨"YardTalk$LawReader", "readBasic", "(I)Z"⟩, 9), (⟨"YardTalk$LawReader", "readComparison", "(I)Z"⟩, 9), (⟨"YardTalk", "checkLaw", "(I)V"⟩, 18), (⟨"YardTalk", "makeNotedTalk", "()V"⟩, 18), (⟨"YardTalk", "drawTalk", "(LYardTalk$World;I)V"⟩, 18), (⟨"YardTalk", "countHolders", "(LYardTalk$World;II)I"⟩, 18), (⟨"YardTalk", "checkFilm", "(I)V"⟩, 18), (⟨"YardTalk", "tryOut", "(III)I"⟩, 18), (⟨"YardTalk", "countUnlike", "(II)I"⟩, 18), (⟨"YardTalk", "countSeenAlone", "(II)I"⟩, 18), (⟨"YardTalk", "areBlurred", "(III)Z"⟩, 18), (⟨"YardTalk", "findTeacher", "(II)I"⟩, 18), (⟨"YardTalkModel", "ends", "()V"⟩, 56), (⟨"YardTalkModel", "may", "(ZI)Z"⟩, 56), (⟨"YardTalkModel", "isChild", "(I)Z"⟩, 56), (⟨"YardTalkModel", "holdsNow", "(II)Z"⟩, 56)]
theorem lw_r3 : ∀ q ∈ lw_privs_3, lw_okq q := List.forall_mem_cons.mpr ⟨lw_p32, List.forall_mem_cons.mpr ⟨lw_p33, List.forall_mem_cons.mpr ⟨lw_p34, List.forall_mem_cons.mpr ⟨lw_p35, List.forall_mem_cons.mpr ⟨lw_p36, List.forall_mem_cons.mpr ⟨lw_p37, List.forall_mem_cons.mpr ⟨lw_p38, List.forall_mem_cons.mpr ⟨lw_p39, List.forall_mem_cons.mpr ⟨lw_p40, List.forall_mem_cons.mpr ⟨lw_p41, List.forall_mem_cons.mpr ⟨lw_p42, List.forall_mem_cons.mpr ⟨lw_p43, List.forall_mem_cons.mpr ⟨lw_p44, List.forall_mem_cons.mpr ⟨lw_p45, List.forall_mem_cons.mpr ⟨lw_p46, List.forall_mem_cons.mpr ⟨lw_p47, fun _ h => absurd h List.not_mem_nil⟩⟩⟩⟩⟩⟩⟩⟩⟩⟩⟩⟩⟩⟩⟩⟩
theorem lw_p48 : lw_okq (⟨"YardTalkModel", "asks", "(III)V"⟩, 56) := ⟨⟨by decide +kernel, by decide +kernel⟩, List.mem_of_getElem? (i := 1308) (by decide +kernel), List.mem_of_getElem? (i := 1528) (by decide +kernel), List.mem_of_getElem? (i := 1529) (by decide +kernel)⟩
theorem lw_p49 : lw_okq (⟨"YardTalkModel", "told", "(II)I"⟩, 56) := ⟨⟨by decide +kernel, by decide +kernel⟩, List.mem_of_getElem? (i := 1308) (by decide +kernel), List.mem_of_getElem? (i := 1532) (by decide +kernel), List.mem_of_getElem? (i := 1533) (by decide +kernel)⟩
theorem lw_p50 : lw_okq (⟨"YardTalkModel", "valueOf", "(II)I"⟩, 56) := ⟨⟨by decide +kernel, by decide +kernel⟩, List.mem_of_getElem? (i := 1308) (by decide +kernel), List.mem_of_getElem? (i := 1536) (by decide +kernel), List.mem_of_getElem? (i := 1537) (by decide +kernel)⟩
theorem lw_p51 : lw_okq (⟨"YardTalkModel", "asked", "(I)I"⟩, 56) := ⟨⟨by decide +kernel, by decide +kernel⟩, List.mem_of_getElem? (i := 1308) (by decide +kernel), List.mem_of_getElem? (i := 1540) (by decide +kernel), List.mem_of_getElem? (i := 1541) (by decide +kernel)⟩
theorem lw_p52 : lw_okq (⟨"YardTalkModel", "fine", "()Z"⟩, 56) := ⟨⟨by decide +kernel, by decide +kernel⟩, List.mem_of_getElem? (i := 1308) (by decide +kernel), List.mem_of_getElem? (i := 1581) (by decide +kernel), List.mem_of_getElem? (i := 1582) (by decide +kernel)⟩
theorem lw_p53 : lw_okq (⟨"YardTalkModel", "isMore", "()Z"⟩, 56) := ⟨⟨by decide +kernel, by decide +kernel⟩, List.mem_of_getElem? (i := 1308) (by decide +kernel), List.mem_of_getElem? (i := 1585) (by decide +kernel), List.mem_of_getElem? (i := 1586) (by decide +kernel)⟩
theorem lw_p54 : lw_okq (⟨"YardTalkModel", "here", "()I"⟩, 56) := ⟨⟨by decide +kernel, by decide +kernel⟩, List.mem_of_getElem? (i := 1308) (by decide +kernel), List.mem_of_getElem? (i := 1589) (by decide +kernel), List.mem_of_getElem? (i := 1590) (by decide +kernel)⟩
theorem lw_p55 : lw_okq (⟨"YardTalkModel", "readClause", "()V"⟩, 56) := ⟨⟨by decide +kernel, by decide +kernel⟩, List.mem_of_getElem? (i := 1308) (by decide +kernel), List.mem_of_getElem? (i := 1593) (by decide +kernel), List.mem_of_getElem? (i := 1594) (by decide +kernel)⟩
theorem lw_p56 : lw_okq (⟨"YardTalkModel", "word", "()I"⟩, 56) := ⟨⟨by decide +kernel, by decide +kernel⟩, List.mem_of_getElem? (i := 1308) (by decide +kernel), List.mem_of_getElem? (i := 1597) (by decide +kernel), List.mem_of_getElem? (i := 1598) (by decide +kernel)⟩
theorem lw_p57 : lw_okq (⟨"YardTalkModel", "wrong", "(II)V"⟩, 56) := ⟨⟨by decide +kernel, by decide +kernel⟩, List.mem_of_getElem? (i := 1308) (by decide +kernel), List.mem_of_getElem? (i := 1608) (by decide +kernel), List.mem_of_getElem? (i := 1609) (by decide +kernel)⟩
theorem lw_p58 : lw_okq (⟨"YardTalkModel", "pass", "()V"⟩, 56) := ⟨⟨by decide +kernel, by decide +kernel⟩, List.mem_of_getElem? (i := 1308) (by decide +kernel), List.mem_of_getElem? (i := 1612) (by decide +kernel), List.mem_of_getElem? (i := 1613) (by decide +kernel)⟩
theorem lw_p59 : lw_okq (⟨"YardTalkModel", "sum", "()V"⟩, 56) := ⟨⟨by decide +kernel, by decide +kernel⟩, List.mem_of_getElem? (i := 1308) (by decide +kernel), List.mem_of_getElem? (i := 1616) (by decide +kernel), List.mem_of_getElem? (i := 1617) (by decide +kernel)⟩
theorem lw_p60 : lw_okq (⟨"YardTalkModel", "product", "()V"⟩, 56) := ⟨⟨by decide +kernel, by decide +kernel⟩, List.mem_of_getElem? (i := 1308) (by decide +kernel), List.mem_of_getElem? (i := 1620) (by decide +kernel), List.mem_of_getElem? (i := 1621) (by decide +kernel)⟩
theorem lw_p61 : lw_okq (⟨"YardTalkModel", "unit", "()V"⟩, 56) := ⟨⟨by decide +kernel, by decide +kernel⟩, List.mem_of_getElem? (i := 1308) (by decide +kernel), List.mem_of_getElem? (i := 1624) (by decide +kernel), List.mem_of_getElem? (i := 1625) (by decide +kernel)⟩
theorem lw_p62 : lw_okq (⟨"YardTalkModel", "readNumber", "()I"⟩, 56) := ⟨⟨by decide +kernel, by decide +kernel⟩, List.mem_of_getElem? (i := 1308) (by decide +kernel), List.mem_of_getElem? (i := 1631) (by decide +kernel), List.mem_of_getElem? (i := 1632) (by decide +kernel)⟩
theorem lw_p63 : lw_okq (⟨"YardTalkModel", "emit", "(II)V"⟩, 56) := ⟨⟨by decide +kernel, by decide +kernel⟩, List.mem_of_getElem? (i := 1308) (by decide +kernel), List.mem_of_getElem? (i := 1635) (by decide +kernel), List.mem_of_getElem? (i := 1636) (by decide +kernel)⟩
def lw_privs_4 : List (MethodName × Nat) := [(⟨"YardTalkModel", "asks", "(III)V"⟩, 56), (⟨"YardTalkModel", "told", "(II)I"⟩, 56), (⟨"YardTalkModel", "valueOf", "(II)I"⟩, 56), (⟨"YardTalkModel", "asked", "(I)I"⟩, 56), (⟨"YardTalkModel", "fine", "()Z"⟩, 56), (⟨"YardTalkModel", "isMore", "()Z"⟩, 56), (⟨"YardTalkModel", "here", "()I"⟩, 56), (⟨"YardTalkModel", "readClause", "()V"⟩, 56), (⟨"YardTalkModel", "word", "()I"⟩, 56), (⟨"YardTalkModel", "wrong", "(II)V"⟩, 56), (⟨"YardTalkModel", "pass", "()V"⟩, 56), (⟨"YardTalkModel", "sum", "()V"⟩, 56), (⟨"YardTalkModel", "product", "()V"⟩, 56), (⟨"YardTalkModel", "unit", "()V"⟩, 56), (⟨"YardTalkModel", "readNumber", "()I"⟩, 56), (⟨"YardTalkModel", "emit", "(II)V"⟩, 56)]
theorem lw_r4 : ∀ q ∈ lw_privs_4, lw_okq q := List.forall_mem_cons.mpr ⟨lw_p48, List.forall_mem_cons.mpr ⟨lw_p49, List.forall_mem_cons.mpr ⟨lw_p50, List.forall_mem_cons.mpr ⟨lw_p51, List.forall_mem_cons.mpr ⟨lw_p52, List.forall_mem_cons.mpr ⟨lw_p53, List.forall_mem_cons.mpr ⟨lw_p54, List.forall_mem_cons.mpr ⟨lw_p55, List.forall_mem_cons.mpr ⟨lw_p56, List.forall_mem_cons.mpr ⟨lw_p57, List.forall_mem_cons.mpr ⟨lw_p58, List.forall_mem_cons.mpr ⟨lw_p59, List.forall_mem_cons.mpr ⟨lw_p60, List.forall_mem_cons.mpr ⟨lw_p61, List.forall_mem_cons.mpr ⟨lw_p62, List.forall_mem_cons.mpr ⟨lw_p63, fun _ h => absurd h List.not_mem_nil⟩⟩⟩⟩⟩⟩⟩⟩⟩⟩⟩⟩⟩⟩⟩⟩
theorem lw_p64 : lw_okq (⟨"YardTalkModel", "opensAt", "(II)V"⟩, 56) := ⟨⟨by decide +kernel, by decide +kernel⟩, List.mem_of_getElem? (i := 1308) (by decide +kernel), List.mem_of_getElem? (i := 1639) (by decide +kernel), List.mem_of_getElem? (i := 1640) (by decide +kernel)⟩
theorem lw_p65 : lw_okq (⟨"YardTalkModel", "closesAt", "(I)V"⟩, 56) := ⟨⟨by decide +kernel, by decide +kernel⟩, List.mem_of_getElem? (i := 1308) (by decide +kernel), List.mem_of_getElem? (i := 1643) (by decide +kernel), List.mem_of_getElem? (i := 1644) (by decide +kernel)⟩
theorem lw_p66 : lw_okq (⟨"YardTalkModel", "need", "(I)V"⟩, 56) := ⟨⟨by decide +kernel, by decide +kernel⟩, List.mem_of_getElem? (i := 1308) (by decide +kernel), List.mem_of_getElem? (i := 1647) (by decide +kernel), List.mem_of_getElem? (i := 1648) (by decide +kernel)⟩
theorem lw_p67 : lw_okq (⟨"YardTalkModel", "anyOf", "()V"⟩, 56) := ⟨⟨by decide +kernel, by decide +kernel⟩, List.mem_of_getElem? (i := 1308) (by decide +kernel), List.mem_of_getElem? (i := 1661) (by decide +kernel), List.mem_of_getElem? (i := 1662) (by decide +kernel)⟩
theorem lw_p68 : lw_okq (⟨"YardTalkModel", "allOf", "()V"⟩, 56) := ⟨⟨by decide +kernel, by decide +kernel⟩, List.mem_of_getElem? (i := 1308) (by decide +kernel), List.mem_of_getElem? (i := 1665) (by decide +kernel), List.mem_of_getElem? (i := 1666) (by decide +kernel)⟩
theorem lw_p69 : lw_okq (⟨"YardTalkModel", "term", "()V"⟩, 56) := ⟨⟨by decide +kernel, by decide +kernel⟩, List.mem_of_getElem? (i := 1308) (by decide +kernel), List.mem_of_getElem? (i := 1669) (by decide +kernel), List.mem_of_getElem? (i := 1670) (by decide +kernel)⟩
theorem lw_p70 : lw_okq (⟨"YardTalkModel", "isLawOrNone", "(I)Z"⟩, 56) := ⟨⟨by decide +kernel, by decide +kernel⟩, List.mem_of_getElem? (i := 1308) (by decide +kernel), List.mem_of_getElem? (i := 1681) (by decide +kernel), List.mem_of_getElem? (i := 1682) (by decide +kernel)⟩
theorem lw_p71 : lw_okq (⟨"YardTalkModel", "tells", "(II)V"⟩, 56) := ⟨⟨by decide +kernel, by decide +kernel⟩, List.mem_of_getElem? (i := 1308) (by decide +kernel), List.mem_of_getElem? (i := 1689) (by decide +kernel), List.mem_of_getElem? (i := 1690) (by decide +kernel)⟩
theorem lw_p72 : lw_okq (⟨"YardTalkModel", "talks", "(II)V"⟩, 56) := ⟨⟨by decide +kernel, by decide +kernel⟩, List.mem_of_getElem? (i := 1308) (by decide +kernel), List.mem_of_getElem? (i := 1693) (by decide +kernel), List.mem_of_getElem? (i := 1694) (by decide +kernel)⟩
theorem lw_p73 : lw_okq (⟨"YardTalkModel", "saysIt", "(II)V"⟩, 56) := ⟨⟨by decide +kernel, by decide +kernel⟩, List.mem_of_getElem? (i := 1308) (by decide +kernel), List.mem_of_getElem? (i := 1697) (by decide +kernel), List.mem_of_getElem? (i := 1698) (by decide +kernel)⟩
theorem lw_p74 : lw_okq (⟨"YardTalkModel", "orderOf", "(I)I"⟩, 56) := ⟨⟨by decide +kernel, by decide +kernel⟩, List.mem_of_getElem? (i := 1308) (by decide +kernel), List.mem_of_getElem? (i := 1701) (by decide +kernel), List.mem_of_getElem? (i := 1702) (by decide +kernel)⟩
theorem lw_p75 : lw_okq (⟨"YardTalkModel", "draw", "(II)I"⟩, 56) := ⟨⟨by decide +kernel, by decide +kernel⟩, List.mem_of_getElem? (i := 1308) (by decide +kernel), List.mem_of_getElem? (i := 1705) (by decide +kernel), List.mem_of_getElem? (i := 1706) (by decide +kernel)⟩
theorem lw_p76 : lw_okq (⟨"YardTalkModel", "signOf", "(II)I"⟩, 56) := ⟨⟨by decide +kernel, by decide +kernel⟩, List.mem_of_getElem? (i := 1308) (by decide +kernel), List.mem_of_getElem? (i := 1715) (by decide +kernel), List.mem_of_getElem? (i := 1716) (by decide +kernel)⟩
theorem lw_p77 : lw_okq (⟨"YardTalkModel", "weightSeen", "(IIII)I"⟩, 56) := ⟨⟨by decide +kernel, by decide +kernel⟩, List.mem_of_getElem? (i := 1308) (by decide +kernel), List.mem_of_getElem? (i := 1719) (by decide +kernel), List.mem_of_getElem? (i := 1720) (by decide +kernel)⟩
theorem lw_p78 : lw_okq (⟨"YardTalkModel", "isWorn", "(II)Z"⟩, 56) := ⟨⟨by decide +kernel, by decide +kernel⟩, List.mem_of_getElem? (i := 1308) (by decide +kernel), List.mem_of_getElem? (i := 1723) (by decide +kernel), List.mem_of_getElem? (i := 1724) (by decide +kernel)⟩
theorem lw_p79 : lw_okq (⟨"YardTalkModel", "learns", "(II)V"⟩, 56) := ⟨⟨by decide +kernel, by decide +kernel⟩, List.mem_of_getElem? (i := 1308) (by decide +kernel), List.mem_of_getElem? (i := 1727) (by decide +kernel), List.mem_of_getElem? (i := 1728) (by decide +kernel)⟩
def lw_privs_5 : List (MethodName × Nat) := [(⟨"YardTalkModel", "opensAt", "(II)V"⟩, 56), (⟨"YardTalkModel", "closesAt", "(I)V"⟩, 56), (⟨"YardTalkModel", "need", "(I)V"⟩, 56), (⟨"YardTalkModel", "anyOf", "()V"⟩, 56), (⟨"YardTalkModel", "allOf", "()V"⟩, 56), (⟨"YardTalkModel", "term", "()V"⟩, 56), (⟨"YardTalkModel", "isLawOrNone", "(I)Z"⟩, 56), (⟨"YardTalkModel", "tells", "(II)V"⟩, 56), (⟨"YardTalkModel", "talks", "(II)V"⟩, 56), (⟨"YardTalkModel", "saysIt", "(II)V"⟩, 56), (⟨"YardTalkModel", "orderOf", "(I)I"⟩, 56), (⟨"YardTalkModel", "draw", "(II)I"⟩, 56), (⟨"YardTalkModel", "signOf", "(II)I"⟩, 56), (⟨"YardTalkModel", "weightSeen", "(IIII)I"⟩, 56), (⟨"YardTalkModel", "isWorn", "(II)Z"⟩, 56), (⟨"YardTalkModel", "learns", "(II)V"⟩, 56)]
theorem lw_r5 : ∀ q ∈ lw_privs_5, lw_okq q := List.forall_mem_cons.mpr ⟨lw_p64, List.forall_mem_cons.mpr ⟨lw_p65, List.forall_mem_cons.mpr ⟨lw_p66, List.forall_mem_cons.mpr ⟨lw_p67, List.forall_mem_cons.mpr ⟨lw_p68, List.forall_mem_cons.mpr ⟨lw_p69, List.forall_mem_cons.mpr ⟨lw_p70, List.forall_mem_cons.mpr ⟨lw_p71, List.forall_mem_cons.mpr ⟨lw_p72, List.forall_mem_cons.mpr ⟨lw_p73, List.forall_mem_cons.mpr ⟨lw_p74, List.forall_mem_cons.mpr ⟨lw_p75, List.forall_mem_cons.mpr ⟨lw_p76, List.forall_mem_cons.mpr ⟨lw_p77, List.forall_mem_cons.mpr ⟨lw_p78, List.forall_mem_cons.mpr ⟨lw_p79, fun _ h => absurd h List.not_mem_nil⟩⟩⟩⟩⟩⟩⟩⟩⟩⟩⟩⟩⟩⟩⟩⟩
theorem lw_p80 : lw_okq (⟨"YardTalkModel", "seenAs", "(II)I"⟩, 56) := ⟨⟨by decide +kernel, by decide +kernel⟩, List.mem_of_getElem? (i := 1308) (by decide +kernel), List.mem_of_getElem? (i := 1731) (by decide +kernel), List.mem_of_getElem? (i := 1732) (by decide +kernel)⟩
theorem lw_p81 : lw_okq (⟨"YardTalkModel", "findHere", "(I)V"⟩, 56) := ⟨⟨by decide +kernel, by decide +kernel⟩, List.mem_of_getElem? (i := 1308) (by decide +kernel), List.mem_of_getElem? (i := 1739) (by decide +kernel), List.mem_of_getElem? (i := 1740) (by decide +kernel)⟩
theorem lw_p82 : lw_okq (⟨"YardTalkModel", "draws", "()V"⟩, 56) := ⟨⟨by decide +kernel, by decide +kernel⟩, List.mem_of_getElem? (i := 1308) (by decide +kernel), List.mem_of_getElem? (i := 1743) (by decide +kernel), List.mem_of_getElem? (i := 1744) (by decide +kernel)⟩
theorem lw_p83 : lw_okq (⟨"YardTalkModel", "heldIn", "(II)I"⟩, 56) := ⟨⟨by decide +kernel, by decide +kernel⟩, List.mem_of_getElem? (i := 1308) (by decide +kernel), List.mem_of_getElem? (i := 1762) (by decide +kernel), List.mem_of_getElem? (i := 1763) (by decide +kernel)⟩
theorem lw_p84 : lw_okq (⟨"YardTalkModel", "isFilm", "(I)Z"⟩, 56) := ⟨⟨by decide +kernel, by decide +kernel⟩, List.mem_of_getElem? (i := 1308) (by decide +kernel), List.mem_of_getElem? (i := 1794) (by decide +kernel), List.mem_of_getElem? (i := 1795) (by decide +kernel)⟩
theorem lw_p85 : lw_okq (⟨"YardTalkModel", "fitting", "(II)I"⟩, 56) := ⟨⟨by decide +kernel, by decide +kernel⟩, List.mem_of_getElem? (i := 1308) (by decide +kernel), List.mem_of_getElem? (i := 1802) (by decide +kernel), List.mem_of_getElem? (i := 1803) (by decide +kernel)⟩
theorem lw_p86 : lw_okq (⟨"YardTalkModel", "tryWith", "(IIII)I"⟩, 56) := ⟨⟨by decide +kernel, by decide +kernel⟩, List.mem_of_getElem? (i := 1308) (by decide +kernel), List.mem_of_getElem? (i := 1814) (by decide +kernel), List.mem_of_getElem? (i := 1815) (by decide +kernel)⟩
theorem lw_p87 : lw_okq (⟨"YardTalkModel", "begins", "()V"⟩, 56) := ⟨⟨by decide +kernel, by decide +kernel⟩, List.mem_of_getElem? (i := 1308) (by decide +kernel), List.mem_of_getElem? (i := 1818) (by decide +kernel), List.mem_of_getElem? (i := 1819) (by decide +kernel)⟩
theorem lw_p88 : lw_okq (⟨"YardTalkModel", "tries", "(II)V"⟩, 56) := ⟨⟨by decide +kernel, by decide +kernel⟩, List.mem_of_getElem? (i := 1308) (by decide +kernel), List.mem_of_getElem? (i := 1822) (by decide +kernel), List.mem_of_getElem? (i := 1823) (by decide +kernel)⟩
theorem lw_p89 : lw_okq (⟨"YardTalkModel", "unlikeOf", "(II)I"⟩, 56) := ⟨⟨by decide +kernel, by decide +kernel⟩, List.mem_of_getElem? (i := 1308) (by decide +kernel), List.mem_of_getElem? (i := 1841) (by decide +kernel), List.mem_of_getElem? (i := 1842) (by decide +kernel)⟩
theorem lw_p90 : lw_okq (⟨"YardTalkModel", "greatest", "(II)I"⟩, 56) := ⟨⟨by decide +kernel, by decide +kernel⟩, List.mem_of_getElem? (i := 1308) (by decide +kernel), List.mem_of_getElem? (i := 1845) (by decide +kernel), List.mem_of_getElem? (i := 1846) (by decide +kernel)⟩
theorem lw_p91 : lw_okq (⟨"YardTalkModel", "heaviest", "(II)I"⟩, 56) := ⟨⟨by decide +kernel, by decide +kernel⟩, List.mem_of_getElem? (i := 1308) (by decide +kernel), List.mem_of_getElem? (i := 1857) (by decide +kernel), List.mem_of_getElem? (i := 1858) (by decide +kernel)⟩
theorem lw_p92 : lw_okq (⟨"YardTalkModel", "teacherOf", "(II)I"⟩, 56) := ⟨⟨by decide +kernel, by decide +kernel⟩, List.mem_of_getElem? (i := 1308) (by decide +kernel), List.mem_of_getElem? (i := 1881) (by decide +kernel), List.mem_of_getElem? (i := 1882) (by decide +kernel)⟩
def lw_privs_6 : List (MethodName × Nat) := [(⟨"YardTalkModel", "seenAs", "(II)I"⟩, 56), (⟨"YardTalkModel", "findHere", "(I)V"⟩, 56), (⟨"YardTalkModel", "draws", "()V"⟩, 56), (⟨"YardTalkModel", "heldIn", "(II)I"⟩, 56), (⟨"YardTalkModel", "isFilm", "(I)Z"⟩, 56), (⟨"YardTalkModel", "fitting", "(II)I"⟩, 56), (⟨"YardTalkModel", "tryWith", "(IIII)I"⟩, 56), (⟨"YardTalkModel", "begins", "()V"⟩, 56), (⟨"YardTalkModel", "tries", "(II)V"⟩, 56), (⟨"YardTalkModel", "unlikeOf", "(II)I"⟩, 56), (⟨"YardTalkModel", "greatest", "(II)I"⟩, 56), (⟨"YardTalkModel", "heaviest", "(II)I"⟩, 56), (⟨"YardTalkModel", "teacherOf", "(II)I"⟩, 56)]
theorem lw_r6 : ∀ q ∈ lw_privs_6, lw_okq q := List.forall_mem_cons.mpr ⟨lw_p80, List.forall_mem_cons.mpr ⟨lw_p81, List.forall_mem_cons.mpr ⟨lw_p82, List.forall_mem_cons.mpr ⟨lw_p83, List.forall_mem_cons.mpr ⟨lw_p84, List.forall_mem_cons.mpr ⟨lw_p85, List.forall_mem_cons.mpr ⟨lw_p86, List.forall_mem_cons.mpr ⟨lw_p87, List.forall_mem_cons.mpr ⟨lw_p88, List.forall_mem_cons.mpr ⟨lw_p89, List.forall_mem_cons.mpr ⟨lw_p90, List.forall_mem_cons.mpr ⟨lw_p91, List.forall_mem_cons.mpr ⟨lw_p92, fun _ h => absurd h List.not_mem_nil⟩⟩⟩⟩⟩⟩⟩⟩⟩⟩⟩⟩⟩
def lw_privs : List (MethodName × Nat) := lw_privs_1 ++ (lw_privs_2 ++ (lw_privs_3 ++ (lw_privs_4 ++ (lw_privs_5 ++ (lw_privs_6)))))
def lw_tbl : List Cond := k2_sels lw_privs ++ tables_1
theorem lw_privs_ok : ∀ q ∈ lw_privs, lw_okq q := by
  show ∀ q ∈ lw_privs_1 ++ (lw_privs_2 ++ (lw_privs_3 ++ (lw_privs_4 ++ (lw_privs_5 ++ (lw_privs_6))))), lw_okq q
  exact List.forall_mem_append.mpr ⟨lw_r1, List.forall_mem_append.mpr ⟨lw_r2, List.forall_mem_append.mpr ⟨lw_r3, List.forall_mem_append.mpr ⟨lw_r4, List.forall_mem_append.mpr ⟨lw_r5, lw_r6⟩⟩⟩⟩⟩

/-! ===== BEGIN words of one list among another's, by their places ===== -/
theorem goodIn_r {big : List Cond} (ws : List Cond) (ps : List Nat) (hp : ws = ps.filterMap (fun i => big[i]?)) (h : ws.all goodWord = true) : GoodIn big ws := by
  intro w hw
  have h1 := List.all_eq_true.mp h w hw
  rw [hp] at hw
  obtain ⟨i, -, hi⟩ := List.mem_filterMap.mp hw
  have hm : w ∈ big := by first | exact List.mem_of_getElem? hi | exact List.getElem?_mem hi
  exact ⟨hm, good_of_word h1⟩
theorem goodIn_app {big a b : List Cond} (ha : GoodIn big a) (hb : GoodIn big b) : GoodIn big (a ++ b) := fun w h => (List.mem_append.mp h).elim (ha w) (hb w)
theorem goodIn_ca {big a b : List Cond} {c : Cond} (ha : GoodIn big (c :: a)) (hb : GoodIn big b) : GoodIn big (c :: (a ++ b)) := fun w h => (List.mem_cons.mp h).elim (fun e => ha w (List.mem_cons.mpr (Or.inl e))) (fun h => (List.mem_append.mp h).elim (fun h => ha w (List.mem_cons.mpr (Or.inr h))) (hb w))
theorem goodIn_sub {big ws : List Cond} (hm : ∀ w ∈ ws, w ∈ big) (h : ws.all goodWord = true) : GoodIn big ws := fun w hw => ⟨hm w hw, good_of_word (List.all_eq_true.mp h w hw)⟩
/-! ===== END ===== -/

/-! ===== BEGIN exceptions that leave a method, and their catching by the caller (launches without stack traces) ===== -/
section VXA
/-! The laws vx_back, vx_callV, vx_callS, vx_callSW, vx_throw0, vx_throwS follow proofs of the library, with one case more: JvmDerived/Free/Laws.lean (Back.of_free), Shelf42/LK1.lean (callV, callS), Shelf/KitTraced.lean (throwNew0V, throwNewS). -/
/-- where a method has thrown q: the class by its name, the cell, what was written, the world -/
def vx_T (XC : String → State → State → Prop) (st : State) (q : Addr) (t : State) (mc ms : Nat) (free : Addr → Prop) : Prop :=
  ∃ (E : String) (ce : Cell) (L : List Loc), XC E st t ∧ t.heap[q]? = some ce ∧ ce.vm = .none ∧ st.vm.findClass E = some ce.cls ∧ st.WarmedH t.vm ∧ st.sameButNew ({ t with vm := st.vm } : State) L mc ms ∧ ∀ z ∈ L, free z.base
def vx_Q (Qc : Array Value → State → Outcome → State → Prop) (XC : String → State → State → Prop) (mc ms : Nat) (free : Addr → Prop) : Array Value → State → Outcome → State → Prop := fun a st o t =>
  (Qc a st o t ∧ ∃ L, FrameEnd st o t L mc ms ∧ ∀ q ∈ L, free q.base) ∨ ∃ q, o = .threw q ∧ vx_T XC st q t mc ms free
/-- a callee that returns or throws -/
def vx_Met (l : Launch) (y : MethodName) (ws : List Cond) (rm : Room) (Pc : Array Value → State → Prop) (Qc : Array Value → State → Outcome → State → Prop) (XC : String → State → State → Prop) (mc ms : Nat) (free : Addr → Prop) : Prop :=
  MetFree l y (headSpec ws rm) Pc (fun _ _ _ _ _ => True) (vx_Q Qc XC mc ms free)
def vx_Post (XC : String → State → State → Prop) (mc ms : Nat) (free : Addr → Prop) : Pt → Array Value → Addr → Pt → Prop := fun A a q B =>
  ∃ (g : JFrame) (mk : MethodId) (t : State) (L : List Loc) (E : String) (ce : Cell), B.U.heap = t.heap ∧ B.U.vm = t.vm ∧ XC E (A.U.calling g mk a) t ∧ t.heap[q]? = some ce ∧ ce.vm = .none ∧ A.U.vm.findClass E = some ce.cls ∧ B.locs = A.locs ++ L ∧ (∀ z ∈ L, free z.base) ∧ B.cells = A.cells + mc ∧ B.slots = A.slots + ms
def vx_Back (l : Launch) (R : Room) (p : Program) (e : Env) (below : List Frame) (s : State) (sargs : Array Value) (y : MethodName) (len W9 : Nat)
    (Pre : Pt → Array Value → Prop) (Post : Pt → Array Value → Option Value → Pt → Prop) (PostX : Pt → Array Value → Addr → Pt → Prop) : Prop :=
  ∀ (m : MethodId) (meth : Method) (c : Code) (A : Pt) (g : JFrame) (ig : Instr) (mk : MethodId) (a : Array Value),
    Stand p l e R s m sargs below meth c A.U A.locs A.cells A.slots → g.method = m → g.locals.size = c.maxLocals → decode c.code g.pc = .ok (ig, len) →
    2 * g.monitorRoom + (g.stack.map fun v => v.category).sum ≤ W9 → A.U.methodNamed? y = some mk → Pre A a →
    (∃ (v : Option Value) (B : Pt), Stand p l e R s m sargs below meth c B.U B.locs B.cells B.slots ∧ Post A a v B ∧
      Steps p.tables e below (doInvoke e (A.U.setTop g) [] mk a).1 (B.U.setTop { g with pc := g.pc + len, stack := v.toList ++ g.stack })) ∨
    (∃ (q : Addr) (B : Pt), Stand p l e R s m sargs below meth c B.U B.locs B.cells B.slots ∧ PostX A a q B ∧
      Steps p.tables e below (doInvoke e (A.U.setTop g) [] mk a).1 ((B.U.setTop g).pushFrame (.throwing q)))
section Payer
variable {l : Launch} {R : Room} {p : Program} {e : Env} {below : List Frame} {s : State} {sargs : Array Value} {y : MethodName} {len W9 : Nat}
theorem vx_back {ws : List Cond} {rm : Room} {Pc : Array Value → State → Prop} {Qc : Array Value → State → Outcome → State → Prop} {XC : String → State → State → Prop} {mc ms : Nat} {free : Addr → Prop} {bytes : ByteArray} {maxL : Nat} {ret : Option FieldType}
    (hM : vx_Met l y ws rm Pc Qc XC mc ms free) (hblind : FrameBlind Pc) (hrc : rm.cells = mc) (hrs : rm.slots = ms)
    (hframes : rm.frames + 1 ≤ R.frames) (hlocals : W9 + (maxL + 11) + rm.locals ≤ R.locals)
    (hws : ∀ w ∈ ws, ∀ a' U, s.WarmedH U.vm → w.before a' U = true) (hcode : Cond.code y bytes maxL ret ∈ ws) (hinit : ∀ a' U, s.WarmedH U.vm → (Cond.initialized y.cls).before a' U = true) :
    vx_Back l R p e below s sargs y len W9 (PreOf R mc ms Pc) (PostOf Qc mc ms free) (vx_Post XC mc ms free) := by
  intro m meth c A g ig mk a X hg hsize hdg hW hn hp
  have h1 : (headSpec ws rm).pre.before a A.U = true := atoms_intro fun w hw => hws w hw _ _ X.warmed
  have h2 : (Cond.code y bytes maxL ret).before a A.U = true := hws _ hcode _ _ X.warmed
  have h3 : (Cond.initialized y.cls).before a A.U = true := hinit _ _ X.warmed
  have h4 : A.cells + (headSpec ws rm).room.cells ≤ R.cells := by rw [show (headSpec ws rm).room.cells = mc from hrc]; exact hp.1
  have h5 : A.slots + (headSpec ws rm).room.slots ≤ R.slots := by rw [show (headSpec ws rm).room.slots = ms from hrs]; exact hp.2.1
  have hPc : Pc a (A.U.calling g mk a) := hblind _ _ _ _ hp.2.2
  obtain ⟨U, Ls, c0, s0⟩ := A
  dsimp only [Pt.U, Pt.locs, Pt.cells, Pt.slots] at h1 h2 h3 h4 h5 X hn hPc ⊢
  obtain ⟨methY, cY, hmY, hcY, -, hlY, -, -, -, -⟩ := Cond.code_spec hn h2
  obtain ⟨kY, hkY, -⟩ := className_of_methodNamed hn
  have hinitY : kY.init = .initialized := Cond.initialized_spec (findClass_of_methodNamed hn) hkY h3
  have h : At U g.method c below := by rw [hg]; exact X.here
  have hlocals9 : W9 + (maxL + 11) + (headSpec ws rm).room.locals ≤ R.locals := hlocals
  have happ : (headSpec ws rm).appliesLoose y e.platform (U.calling g mk a) = true :=
    Spec.appliesLoose_calling (g := g) h hdg hn hkY hinitY
      (X.room_calling (g := g) (R' := (headSpec ws rm).room) hsize hmY hcY hframes (by rw [hlY]; omega) h4 h5) h1
  obtain ⟨mid, hmid⟩ := h.above
  have hfr : (U.setTop g).frames = (.java g :: mid) ++ below := by rw [State.frames_setTop' g h.top, hmid]; rfl
  obtain ⟨o, s₂, hsteps, -, hend, hq⟩ := Steps.callFree hM p X.admits X.cas X.clock (acts := []) hfr happ hPc trivial
  have hq' : vx_Q Qc XC mc ms free a (U.calling g mk a) o s₂ := hq
  rw [State.frames_setTop' g h.top] at hend
  obtain ⟨g₀, hg0⟩ := Option.isSome_iff_exists.mp h.top
  obtain ⟨r, hr⟩ := State.topJava?_eq_some.mp hg0
  have hr' : (({ U with heap := s₂.heap, slotsUsed := s₂.slotsUsed } : State).setVm s₂.vm).frames = .java g₀ :: r := hr
  rcases hq' with ⟨hqc, L, hfe, hL⟩ | ⟨q, rfl, E, ce, L, hx, hce, hcv, hcl, hW₂, hsm, hL⟩
  · obtain ⟨⟨v, rfl⟩, hW₂, e2, q2, q3, q4, q5, q6⟩ := id hfe
    have e3 : s₂ = ({ (U.calling g mk a).setFrames s₂.frames with heap := s₂.heap, slotsUsed := s₂.slotsUsed } : State).setVm s₂.vm := by
      have : s₂ = ({ s₂ with vm := (U.calling g mk a).vm } : State).setVm s₂.vm := rfl
      rw [e2] at this
      exact this
    obtain ⟨c₂, i₂, len₂, hc₂, hd₂, hf₂⟩ := hend
    have hW' : U.WarmedH s₂.vm := hW₂
    have hcc : c₂ = c := by
      have h1 : s₂.code? g.method = U.code? g.method := by
        rw [State.code?_eq, State.code?_eq, hW'.alike.method?]
      exact Option.some.inj (hc₂.symm.trans (h1.trans h.code))
    subst hcc
    have hlen : len₂ = len := by rw [hdg] at hd₂; cases hd₂; rfl
    subst hlen
    have hs₂ : s₂ = (({ U with heap := s₂.heap, slotsUsed := s₂.slotsUsed } : State).setVm s₂.vm).setTop { g with pc := g.pc + len₂, stack := v.toList ++ g.stack } := by
      refine e3.trans ?_
      rw [hf₂, State.calling_eq h.top, State.setFrames_setFrames, State.setTop_of_frames _ hr', hr]
      rfl
    have hsame : U.sameButNew ({ U with heap := s₂.heap, slotsUsed := s₂.slotsUsed } : State) L mc ms := by
      refine ⟨?_, q2, q3, q4, q5, q6⟩
      obtain ⟨t, ht, -⟩ := State.frames_cons hr
      show ({ U with heap := s₂.heap, slotsUsed := s₂.slotsUsed } : State) = { U.setFrames U.frames with heap := s₂.heap, slotsUsed := s₂.slotsUsed }
      rw [State.setFrames_self ht]
    subst hg
    refine Or.inl ⟨v, ⟨(({ U with heap := s₂.heap, slotsUsed := s₂.slotsUsed } : State).setVm s₂.vm), Ls ++ L, c0 + mc, s0 + ms⟩,
      ⟨X.admits, X.cas, X.clock, X.frames, X.room, X.hears, X.method, X.code, (X.here.setHeapUsed s₂.heap s₂.slotsUsed).setVm hW'.alike, X.tail, State.WarmedH.trans X.warmed hW', X.limits, X.bytes, X.same.trans (hsame.setVm s.vm)⟩,
      ⟨g, mk, s₂, L, rfl, rfl, hqc, rfl, hL, rfl, rfl⟩, ?_⟩
    show Steps p.tables e below _ ((({ U with heap := s₂.heap, slotsUsed := s₂.slotsUsed } : State).setVm s₂.vm).setTop { g with pc := g.pc + len₂, stack := v.toList ++ g.stack })
    rw [← hs₂]
    exact hsteps
  · obtain ⟨e2, q2, q3, q4, q5, q6⟩ := id hsm
    have e3 : s₂ = ({ (U.calling g mk a).setFrames s₂.frames with heap := s₂.heap, slotsUsed := s₂.slotsUsed } : State).setVm s₂.vm := by
      have : s₂ = ({ s₂ with vm := (U.calling g mk a).vm } : State).setVm s₂.vm := rfl
      rw [e2] at this
      exact this
    have hf₂ : s₂.frames = .throwing q :: .java g :: U.frames.tail := hend
    have hW' : U.WarmedH s₂.vm := hW₂
    have hs₂ : s₂ = ((({ U with heap := s₂.heap, slotsUsed := s₂.slotsUsed } : State).setVm s₂.vm).setTop g).pushFrame (.throwing q) := by
      refine e3.trans ?_
      rw [hf₂, State.calling_eq h.top, State.setFrames_setFrames, State.pushFrame, State.frames_setTop _ hr', State.setTop_of_frames _ hr', State.setFrames_setFrames, hr]
      rfl
    have hsame : U.sameButNew ({ U with heap := s₂.heap, slotsUsed := s₂.slotsUsed } : State) L mc ms := by
      refine ⟨?_, q2, q3, q4, q5, q6⟩
      obtain ⟨t, ht, -⟩ := State.frames_cons hr
      show ({ U with heap := s₂.heap, slotsUsed := s₂.slotsUsed } : State) = { U.setFrames U.frames with heap := s₂.heap, slotsUsed := s₂.slotsUsed }
      rw [State.setFrames_self ht]
    subst hg
    refine Or.inr ⟨q, ⟨(({ U with heap := s₂.heap, slotsUsed := s₂.slotsUsed } : State).setVm s₂.vm), Ls ++ L, c0 + mc, s0 + ms⟩,
      ⟨X.admits, X.cas, X.clock, X.frames, X.room, X.hears, X.method, X.code, (X.here.setHeapUsed s₂.heap s₂.slotsUsed).setVm hW'.alike, X.tail, State.WarmedH.trans X.warmed hW', X.limits, X.bytes, X.same.trans (hsame.setVm s.vm)⟩,
      ⟨g, mk, s₂, L, E, ce, rfl, rfl, hx, hce, hcv, hcl, rfl, hL, rfl, rfl⟩, ?_⟩
    show Steps p.tables e below _ (((({ U with heap := s₂.heap, slotsUsed := s₂.slotsUsed } : State).setVm s₂.vm).setTop g).pushFrame (.throwing q))
    rw [← hs₂]
    exact hsteps
end Payer
section Calls
variable {p : Program} {l : Launch} {e : Env} {R : Room} {s : State} {m : MethodId} {args : Array Value} {below : List Frame} {meth : Method} {c : Code} {T : State} {locs : List Loc} {cells slots : Nat}
theorem vx_callV (X : Stand p l e R s m args below meth c T locs cells slots) (hexec : p.tables.exec = Jvm.exec) {own C : String} {index : Nat} {y : MethodName} {bytes : ByteArray} {maxL : Nat} {ret : Option FieldType}
    (hown : s.vm.findClass own = some m.cls) (hlink : (Cond.methodLink own index y).before args s = true) (hinst : (Cond.instanceMethod y).before args s = true) (hsel : (Cond.selects C y y).before args s = true)
    (hcode : (Cond.code y bytes maxL ret).before args s = true) (hy : y.cls ≠ "java/lang/invoke/MethodHandle" ∧ y.cls ≠ "java/lang/invoke/VarHandle")
    {W9 : Nat} {Pre : Pt → Array Value → Prop} {Post : Pt → Array Value → Option Value → Pt → Prop} {PostX : Pt → Array Value → Addr → Pt → Prop} (hK : vx_Back l R p e below s args y 3 W9 Pre Post PostX)
    {b : Addr} {cellB : Cell} (hcell : T.heap[b]? = some cellB) (hobj : cellB.vm.isStatics = false) (hcls : s.vm.findClass C = some cellB.cls)
    {g : JFrame} (hg : g.method = m) (hsize : g.locals.size = c.maxLocals) {argsL rest : List Value} (hlen : ∀ sig, parseMethodDescriptor y.desc = some sig → argsL.length = sig.parameters.length)
    (hstack : g.stack = argsL.reverse ++ .ref b :: rest) (hW : 2 * g.monitorRoom + (rest.map fun v => v.category).sum ≤ W9) (hdg : decode c.code g.pc = .ok (.invokevirtual index, 3))
    (hpre : ∀ vm₁, s.WarmedH vm₁ → Pre ⟨T.setVm vm₁, locs, cells, slots⟩ (Value.ref b :: argsL).toArray) :
    (∃ (v : Option Value) (vm₁ : Vm) (B : Pt), s.WarmedH vm₁ ∧ Stand p l e R s m args below meth c B.U B.locs B.cells B.slots ∧ Post ⟨T.setVm vm₁, locs, cells, slots⟩ (Value.ref b :: argsL).toArray v B ∧
      ∀ target, Steps p.tables e below (B.U.setTop { g with pc := g.pc + 3, stack := v.toList ++ rest }) target → Steps p.tables e below (T.setTop g) target) ∨
    (∃ (q : Addr) (vm₁ : Vm) (B : Pt), s.WarmedH vm₁ ∧ Stand p l e R s m args below meth c B.U B.locs B.cells B.slots ∧ PostX ⟨T.setVm vm₁, locs, cells, slots⟩ (Value.ref b :: argsL).toArray q B ∧
      Steps p.tables e below (T.setTop g) ((B.U.setTop { g with stack := rest }).pushFrame (.throwing q))) := by
  obtain ⟨mk, methM, hnamed, hmethM, hstM, habM⟩ := Cond.instanceMethod_spec hinst
  obtain ⟨methM', cM, hmethM', -, -, -, -, -, -, hsigM⟩ := Cond.code_spec hnamed hcode
  cases hmethM.symm.trans hmethM'
  obtain ⟨c2, r2, m2, q1, q2, q3, q4, kP, hkP, hkPi⟩ := Cond.selects_spec hsel
  cases hcls.symm.trans q1
  cases (State.methodFound?_of_named hnamed hy).symm.trans q2
  cases hnamed.symm.trans q3
  have hselP : selectMethod e.platform s.vm cellB.cls mk = .method mk := by rw [Launch.admits_selectMethod X.admits]; exact q4
  obtain ⟨vm₁, X₁, hstep₁⟩ := X.invokevirtual hexec hown hlink hnamed hmethM hstM hkP hkPi hy (a := b) (cell := cellB) hcell
    (fun z h => by rw [h] at hobj; cases hobj) hselP hmethM habM hkP hkPi (g := g) hg (argsL := argsL) (rest := rest) (hlen _ hsigM) hstack hdg
  rcases hK m meth c ⟨T.setVm vm₁, locs, cells, slots⟩ { g with stack := rest } (.invokevirtual index) mk (Value.ref b :: argsL).toArray X₁ hg hsize hdg hW (X₁.named hnamed) (hpre vm₁ X₁.warmed) with ⟨v, B, X', hpost, hsteps⟩ | ⟨q, B, X', hpost, hsteps⟩
  · exact Or.inl ⟨v, vm₁, B, X₁.warmed, X', hpost, fun target h => hstep₁ _ fun acts => by rw [doInvoke_state]; exact hsteps.trans h⟩
  · exact Or.inr ⟨q, vm₁, B, X₁.warmed, X', hpost, hstep₁ _ fun acts => by rw [doInvoke_state]; exact hsteps⟩
theorem vx_callS (X : Stand p l e R s m args below meth c T locs cells slots) (hexec : p.tables.exec = Jvm.exec) {own : String} {index : Nat} {y : MethodName} {bytes : ByteArray} {maxL : Nat} {ret : Option FieldType}
    (hown : s.vm.findClass own = some m.cls) (hlink : (Cond.methodLink own index y).before args s = true) (hstat : (Cond.static y).before args s = true) (hinit : (Cond.initialized y.cls).before args s = true)
    (hcode : (Cond.code y bytes maxL ret).before args s = true) (hy : y.cls ≠ "java/lang/invoke/MethodHandle" ∧ y.cls ≠ "java/lang/invoke/VarHandle")
    {W9 : Nat} {Pre : Pt → Array Value → Prop} {Post : Pt → Array Value → Option Value → Pt → Prop} {PostX : Pt → Array Value → Addr → Pt → Prop} (hK : vx_Back l R p e below s args y 3 W9 Pre Post PostX)
    {g : JFrame} (hg : g.method = m) (hsize : g.locals.size = c.maxLocals) {argsL rest : List Value} (hlen : ∀ sig, parseMethodDescriptor y.desc = some sig → argsL.length = sig.parameters.length)
    (hstack : g.stack = argsL.reverse ++ rest) (hW : 2 * g.monitorRoom + (rest.map fun v => v.category).sum ≤ W9) (hdg : decode c.code g.pc = .ok (.invokestatic index, 3))
    (hpre : ∀ vm₁, s.WarmedH vm₁ → Pre ⟨T.setVm vm₁, locs, cells, slots⟩ argsL.toArray) :
    (∃ (v : Option Value) (vm₁ : Vm) (B : Pt), s.WarmedH vm₁ ∧ Stand p l e R s m args below meth c B.U B.locs B.cells B.slots ∧ Post ⟨T.setVm vm₁, locs, cells, slots⟩ argsL.toArray v B ∧
      ∀ target, Steps p.tables e below (B.U.setTop { g with pc := g.pc + 3, stack := v.toList ++ rest }) target → Steps p.tables e below (T.setTop g) target) ∨
    (∃ (q : Addr) (vm₁ : Vm) (B : Pt), s.WarmedH vm₁ ∧ Stand p l e R s m args below meth c B.U B.locs B.cells B.slots ∧ PostX ⟨T.setVm vm₁, locs, cells, slots⟩ argsL.toArray q B ∧
      Steps p.tables e below (T.setTop g) ((B.U.setTop { g with stack := rest }).pushFrame (.throwing q))) := by
  obtain ⟨mk, hnamed⟩ := Cond.code_named hcode
  obtain ⟨methM, cM, hmethM, -, -, -, -, -, -, hsigM⟩ := Cond.code_spec hnamed hcode
  have hstatic : methM.isStatic = true := Cond.static_spec hnamed hmethM hstat
  obtain ⟨kP, hkP, -⟩ := className_of_methodNamed hnamed
  have hinitP : kP.init = .initialized := Cond.initialized_spec (findClass_of_methodNamed hnamed) hkP hinit
  obtain ⟨vm₁, X₁, hstep₁⟩ := X.invokestatic hexec hown hlink hnamed hmethM hstatic hkP hinitP hy (g := g) hg (argsL := argsL) (rest := rest) (hlen _ hsigM) hstack hdg
  rcases hK m meth c ⟨T.setVm vm₁, locs, cells, slots⟩ { g with stack := rest } (.invokestatic index) mk argsL.toArray X₁ hg hsize hdg hW (X₁.named hnamed) (hpre vm₁ X₁.warmed) with ⟨v, B, X', hpost, hsteps⟩ | ⟨q, B, X', hpost, hsteps⟩
  · exact Or.inl ⟨v, vm₁, B, X₁.warmed, X', hpost, fun target h => hstep₁ _ fun acts => by rw [doInvoke_state]; exact hsteps.trans h⟩
  · exact Or.inr ⟨q, vm₁, B, X₁.warmed, X', hpost, hstep₁ _ fun acts => by rw [doInvoke_state]; exact hsteps⟩
end Calls
theorem vx_cls {s : State} {T : State} {vm₁ : Vm} {E : String} {k : ClassId} (hW : s.WarmedH vm₁) (h : (T.setVm vm₁).vm.findClass E = some k) : s.vm.findClass E = some k := by
  have h1 : vm₁.findClass E = some k := h
  rw [hW.alike.findClass] at h1
  exact h1
/-- the method's frame g, with q thrown over it -/
def vx_W (p : Program) (l : Launch) (e : Env) (R : Room) (s : State) (m : MethodId) (args : Array Value) (below : List Frame) (meth : Method) (c : Code) (H : Heap) (locs : List Loc) (cells slots : Nat) (Q : State → Prop) (g : JFrame) (q : Addr) : Prop :=
  ∀ T : State, T.heap = H → Stand p l e R s m args below meth c T locs cells slots → ∃ t, Steps p.tables e below ((T.setTop g).pushFrame (.throwing q)) t ∧ Q t
def vx_Run (p : Program) (l : Launch) (e : Env) (R : Room) (s : State) (m : MethodId) (args : Array Value) (below : List Frame) (meth : Method) (c : Code) (H : Heap) (locs : List Loc) (cells slots mc ms : Nat) (g : JFrame) (rest : List Value) (Qa : State → Outcome → State → Prop) (XC : String → State → State → Prop) (free : Addr → Prop) : Prop :=
  ∀ T : State, T.heap = H → Stand p l e R s m args below meth c T locs cells slots →
    (∃ (v : Option Value) (st₀ t T' : State) (L : List Loc), st₀.heap = H ∧ Stand p l e R s m args below meth c T' (locs ++ L) (cells + mc) (slots + ms) ∧ (∀ q ∈ L, free q.base) ∧ T'.heap = t.heap ∧ T'.vm = t.vm ∧ Qa st₀ (.returned v) t ∧
      Goes p e below T g T' { g with pc := g.pc + 3, stack := v.toList ++ rest }) ∨
    (∃ (q : Addr) (st₀ t T' : State) (L : List Loc) (E : String) (ce : Cell), st₀.heap = H ∧ Stand p l e R s m args below meth c T' (locs ++ L) (cells + mc) (slots + ms) ∧ (∀ z ∈ L, free z.base) ∧ T'.heap = t.heap ∧ T'.vm = t.vm ∧ XC E st₀ t ∧ t.heap[q]? = some ce ∧ ce.vm = .none ∧ s.vm.findClass E = some ce.cls ∧
      Steps p.tables e below (T.setTop g) ((T'.setTop { g with stack := rest }).pushFrame (.throwing q)))
def vx_X {S : Type} (px : S → Prop) (B : String → S → State → Prop) (A : Nat → Prop) : String → State → State → Prop := fun E st t => ∃ u : S, px u ∧ B E u t ∧ va_F A st t
section Runs
variable {p : Program} {l : Launch} {e : Env} {R : Room} {s : State} {m : MethodId} {args : Array Value} {below : List Frame} {meth : Method} {c : Code} {H : Heap} {locs : List Loc} {cells slots : Nat}
variable {y : MethodName} {bytes cc : ByteArray} {maxL nL mc ms n index : Nat} {ret : Option FieldType} {ws : List Cond} {rm : Room} {Pc : Array Value → State → Prop} {Qc : Array Value → State → Outcome → State → Prop} {XC : String → State → State → Prop} {free : Addr → Prop} {Ts : List Cond} {own C : String} {b : Addr} {As rest : List Value} {g : JFrame}
theorem vx_callBack (cb : CallB R s args own index y bytes maxL ret ws rm mc ms n) (hM : vx_Met l y ws rm Pc Qc XC mc ms free) (hbl : FrameBlind Pc) : vx_Back l R p e below s args y 3 8 (PreOf R mc ms Pc) (PostOf Qc mc ms free) (vx_Post XC mc ms free) := by
  obtain ⟨hrc, hrs, hfr, hlo, hws, hcw, -, hini, -⟩ := cb
  exact vx_back (bytes := bytes) (maxL := maxL) (ret := ret) hM hbl hrc hrs hfr hlo hws hcw (fun a' U hW => word_at hW (Or.inl (by first | rfl | simp [Cond.onTables, Cond.keeps, Cond.steady])) hini)
theorem vx_runV (S : CallFix p m c cc nL s args Ts own) (hM : vx_Met l y ws rm Pc Qc XC mc ms free) (cw : CallW R s args own C index y bytes maxL ret ws rm mc ms n) (hp : PreV s H C b Pc As)
    (hg : g.method = m) (hn : As.length = n) (hsize : g.locals.size = nL) (hstack : g.stack = As.reverse ++ .ref b :: rest) (hW : 2 * g.monitorRoom + (rest.map fun v => v.category).sum ≤ 8) (hdg : decode cc g.pc = .ok (.invokevirtual index, 3)) (hf : cells + mc ≤ R.cells ∧ slots + ms ≤ R.slots) :
    vx_Run p l e R s m args below meth c H locs cells slots mc ms g rest (Qc (Value.ref b :: As).toArray) XC free := by
  have hK : vx_Back l R p e below s args y 3 8 (PreOf R mc ms Pc) (PostOf Qc mc ms free) (vx_Post XC mc ms free) := vx_callBack cw.1 hM hp.1
  obtain ⟨⟨-, -, -, -, -, -, hcode, -, hy, hlen, hl⟩, hin, hse⟩ := cw
  obtain ⟨hx, hb, hml, ho, -⟩ := S
  obtain ⟨-, ⟨cellB, hcB, hoB, hclB⟩, hPc⟩ := hp
  intro T hT X
  rcases vx_callV X hx (C := C) (bytes := bytes) (maxL := maxL) (ret := ret) ho hl hin hse hcode hy hK (by rw [hT]; exact hcB) hoB hclB hg (hsize.trans hml.symm) (argsL := As) (rest := rest) (fun sig h => hn.trans (hlen sig h)) hstack hW (by rw [hb]; exact hdg)
    (fun vm₁ hW₁ => ⟨hf.1, hf.2, hPc (T.setVm vm₁) hT hW₁⟩) with ⟨v, vm₁, ⟨U', l2, c2, s2⟩, hW₁, X', ⟨g', mk, t, L, e1, e2, hq, h1, hL, h2, h3⟩, st⟩ | ⟨q, vm₁, ⟨U', l2, c2, s2⟩, hW₁, X', ⟨g', mk, t, L, E, ce, e1, e2, hq, hce, hcv, hcl, h1, hL, h2, h3⟩, st⟩
  · dsimp only [Pt.U, Pt.locs, Pt.cells, Pt.slots] at X' e1 e2 h1 h2 h3 st
    subst h1; subst h2; subst h3
    exact Or.inl ⟨v, (T.setVm vm₁).calling g' mk (Value.ref b :: As).toArray, t, U', L, hT, X', hL, e1, e2, hq, st⟩
  · dsimp only [Pt.U, Pt.locs, Pt.cells, Pt.slots] at X' e1 e2 h1 h2 h3 st hcl
    subst h1; subst h2; subst h3
    exact Or.inr ⟨q, (T.setVm vm₁).calling g' mk (Value.ref b :: As).toArray, t, U', L, E, ce, hT, X', hL, e1, e2, hq, hce, hcv, vx_cls hW₁ hcl, st⟩
theorem vx_runS (S : CallFix p m c cc nL s args Ts own) (hM : vx_Met l y ws rm Pc Qc XC mc ms free) (cw : CallB R s args own index y bytes maxL ret ws rm mc ms n ∧ (Cond.static y).before args s = true) (hp : PreS s H Pc As)
    (hg : g.method = m) (hn : As.length = n) (hsize : g.locals.size = nL) (hstack : g.stack = As.reverse ++ rest) (hW : 2 * g.monitorRoom + (rest.map fun v => v.category).sum ≤ 8) (hdg : decode cc g.pc = .ok (.invokestatic index, 3)) (hf : cells + mc ≤ R.cells ∧ slots + ms ≤ R.slots) :
    vx_Run p l e R s m args below meth c H locs cells slots mc ms g rest (Qc As.toArray) XC free := by
  have hK : vx_Back l R p e below s args y 3 8 (PreOf R mc ms Pc) (PostOf Qc mc ms free) (vx_Post XC mc ms free) := vx_callBack cw.1 hM hp.1
  obtain ⟨⟨-, -, -, -, -, -, hcode, hini, hy, hlen, hl⟩, hstt⟩ := cw
  obtain ⟨hx, hb, hml, ho, -⟩ := S
  intro T hT X
  rcases vx_callS X hx (bytes := bytes) (maxL := maxL) (ret := ret) ho hl hstt hini hcode hy hK hg (hsize.trans hml.symm) (argsL := As) (rest := rest) (fun sig h => hn.trans (hlen sig h)) hstack hW (by rw [hb]; exact hdg)
    (fun vm₁ hW₁ => ⟨hf.1, hf.2, hp.2 (T.setVm vm₁) hT hW₁⟩) with ⟨v, vm₁, ⟨U', l2, c2, s2⟩, hW₁, X', ⟨g', mk, t, L, e1, e2, hq, h1, hL, h2, h3⟩, st⟩ | ⟨q, vm₁, ⟨U', l2, c2, s2⟩, hW₁, X', ⟨g', mk, t, L, E, ce, e1, e2, hq, hce, hcv, hcl, h1, hL, h2, h3⟩, st⟩
  · dsimp only [Pt.U, Pt.locs, Pt.cells, Pt.slots] at X' e1 e2 h1 h2 h3 st
    subst h1; subst h2; subst h3
    exact Or.inl ⟨v, (T.setVm vm₁).calling g' mk As.toArray, t, U', L, hT, X', hL, e1, e2, hq, st⟩
  · dsimp only [Pt.U, Pt.locs, Pt.cells, Pt.slots] at X' e1 e2 h1 h2 h3 st hcl
    subst h1; subst h2; subst h3
    exact Or.inr ⟨q, (T.setVm vm₁).calling g' mk As.toArray, t, U', L, E, ce, hT, X', hL, e1, e2, hq, hce, hcv, vx_cls hW₁ hcl, st⟩
end Runs
section Rows
variable {p : Program} {l : Launch} {e : Env} {R : Room} {s : State} {m : MethodId} {args : Array Value} {below : List Frame} {meth : Method} {c : Code} {H : Heap} {locs : List Loc} {cells slots : Nat} {Q : State → Prop}
variable {mc ms : Nat} {free : Addr → Prop} {A0 A1 : Nat → Prop} {H0 : Heap} {a : Array Value} {pc : Nat} {ls : Array Slot} {st0 rest : List Value}
theorem vx_keep {st₀ t T' : State} {L : List Loc} (h0 : st₀.heap = H) (e1 : T'.heap = t.heap) (hS : va_S A0 H0 H locs) (hA : ∀ q, q < H.size → A1 q → A0 q) (hf : ∀ q, free q → A0 q) (hL : ∀ q ∈ L, free q.base) (hF : va_F A1 st₀ t) :
    H.size ≤ T'.heap.size ∧ (∀ q : Nat, q < H.size → ¬ A1 q → T'.heap[q]? = H[q]?) ∧ va_S A0 H0 T'.heap (locs ++ L) := by
  obtain ⟨hz, hk⟩ := hF
  rw [h0] at hz hk
  exact ⟨by rw [e1]; exact hz, fun q h1 h2 => by rw [e1]; exact hk q h1 h2,
    ⟨Nat.le_trans hS.1 (by rw [e1]; exact hz), fun q h1 h2 => by rw [e1, hk q (Nat.lt_of_lt_of_le h1 hS.1) (fun z => h2 (hA q (Nat.lt_of_lt_of_le h1 hS.1) z))]; exact hS.2.1 q h1 h2, fun q hq => by
      rcases List.mem_append.mp hq with h | h
      · exact hS.2.2 q h
      · exact hf _ (hL q h)⟩⟩
theorem vx_calli {S SX : Type} {post : Int32 → S → Prop} {px : SX → Prop} {B : S → State → Prop} {BX : String → SX → State → Prop} {AX : Nat → Prop} (hr : vx_Run p l e R s m args below meth c H locs cells slots mc ms (F0 m pc ls st0) rest (va_Qi post B A1 a) (vx_X px BX AX) free) (hS : va_S A0 H0 H locs) (hA : ∀ q, q < H.size → A1 q → A0 q) (hf : ∀ q, free q → A0 q) (hAX : ∀ q, q < H.size → AX q → A0 q)
    (kx : ∀ (E : String) (ce : Cell) (q9 : Addr) (u : SX) (t : State) (H1 : Heap) (locs1 : List Loc), t.heap = H1 → s.vm.Alike t.vm → px u → BX E u t → H.size ≤ H1.size → (∀ q : Nat, q < H.size → ¬ AX q → H1[q]? = H[q]?) → va_S A0 H0 H1 locs1 → H1[q9]? = some ce → ce.vm = .none → s.vm.findClass E = some ce.cls → vx_W p l e R s m args below meth c H1 locs1 (cells + mc) (slots + ms) Q (F0 m pc ls rest) q9)
    (kk : ∀ (r : Int32) (u : S) (t : State) (H1 : Heap) (locs1 : List Loc), t.heap = H1 → s.vm.Alike t.vm → post r u → B u t → H.size ≤ H1.size → (∀ q : Nat, q < H.size → ¬ A1 q → H1[q]? = H[q]?) → va_S A0 H0 H1 locs1 → W p l e R s m args below meth c H1 locs1 (cells + mc) (slots + ms) Q (F0 m (pc + 3) ls (.int r :: rest))) : W p l e R s m args below meth c H locs cells slots Q (F0 m pc ls st0) := by
  intro T hT X
  rcases hr T hT X with ⟨v, st₀, t, T', L, h0, X', hL, e1, e2, ⟨⟨r, u, hv, hp, hb⟩, hF⟩, st⟩ | ⟨q, st₀, t, T', L, E, ce, h0, X', hL, e1, e2, ⟨u, hp, hb, hF⟩, hce, hcv, hcl, st⟩
  · cases hv
    obtain ⟨k1, k2, k3⟩ := vx_keep h0 e1 hS hA hf hL hF
    obtain ⟨t2, a1, b1⟩ := kk r u t T'.heap (locs ++ L) e1.symm (by rw [← e2]; exact X'.warmed.alike) hp hb k1 k2 k3 T' rfl X'
    exact ⟨t2, st t2 a1, b1⟩
  · obtain ⟨k1, k2, k3⟩ := vx_keep h0 e1 hS hAX hf hL hF
    obtain ⟨t2, a1, b1⟩ := kx E ce q u t T'.heap (locs ++ L) e1.symm (by rw [← e2]; exact X'.warmed.alike) hp hb k1 k2 k3 (by rw [e1]; exact hce) hcv hcl T' rfl X'
    exact ⟨t2, st.trans a1, b1⟩
theorem vx_calll {S SX : Type} {post : Int64 → S → Prop} {px : SX → Prop} {B : S → State → Prop} {BX : String → SX → State → Prop} {AX : Nat → Prop} (hr : vx_Run p l e R s m args below meth c H locs cells slots mc ms (F0 m pc ls st0) rest (va_Ql post B A1 a) (vx_X px BX AX) free) (hS : va_S A0 H0 H locs) (hA : ∀ q, q < H.size → A1 q → A0 q) (hf : ∀ q, free q → A0 q) (hAX : ∀ q, q < H.size → AX q → A0 q)
    (kx : ∀ (E : String) (ce : Cell) (q9 : Addr) (u : SX) (t : State) (H1 : Heap) (locs1 : List Loc), t.heap = H1 → s.vm.Alike t.vm → px u → BX E u t → H.size ≤ H1.size → (∀ q : Nat, q < H.size → ¬ AX q → H1[q]? = H[q]?) → va_S A0 H0 H1 locs1 → H1[q9]? = some ce → ce.vm = .none → s.vm.findClass E = some ce.cls → vx_W p l e R s m args below meth c H1 locs1 (cells + mc) (slots + ms) Q (F0 m pc ls rest) q9)
    (kk : ∀ (r : Int64) (u : S) (t : State) (H1 : Heap) (locs1 : List Loc), t.heap = H1 → s.vm.Alike t.vm → post r u → B u t → H.size ≤ H1.size → (∀ q : Nat, q < H.size → ¬ A1 q → H1[q]? = H[q]?) → va_S A0 H0 H1 locs1 → W p l e R s m args below meth c H1 locs1 (cells + mc) (slots + ms) Q (F0 m (pc + 3) ls (.long r :: rest))) : W p l e R s m args below meth c H locs cells slots Q (F0 m pc ls st0) := by
  intro T hT X
  rcases hr T hT X with ⟨v, st₀, t, T', L, h0, X', hL, e1, e2, ⟨⟨r, u, hv, hp, hb⟩, hF⟩, st⟩ | ⟨q, st₀, t, T', L, E, ce, h0, X', hL, e1, e2, ⟨u, hp, hb, hF⟩, hce, hcv, hcl, st⟩
  · cases hv
    obtain ⟨k1, k2, k3⟩ := vx_keep h0 e1 hS hA hf hL hF
    obtain ⟨t2, a1, b1⟩ := kk r u t T'.heap (locs ++ L) e1.symm (by rw [← e2]; exact X'.warmed.alike) hp hb k1 k2 k3 T' rfl X'
    exact ⟨t2, st t2 a1, b1⟩
  · obtain ⟨k1, k2, k3⟩ := vx_keep h0 e1 hS hAX hf hL hF
    obtain ⟨t2, a1, b1⟩ := kx E ce q u t T'.heap (locs ++ L) e1.symm (by rw [← e2]; exact X'.warmed.alike) hp hb k1 k2 k3 (by rw [e1]; exact hce) hcv hcl T' rfl X'
    exact ⟨t2, st.trans a1, b1⟩
theorem vx_callf {S SX : Type} {post : UInt32 → S → Prop} {px : SX → Prop} {B : S → State → Prop} {BX : String → SX → State → Prop} {AX : Nat → Prop} (hr : vx_Run p l e R s m args below meth c H locs cells slots mc ms (F0 m pc ls st0) rest (va_Qf post B A1 a) (vx_X px BX AX) free) (hS : va_S A0 H0 H locs) (hA : ∀ q, q < H.size → A1 q → A0 q) (hf : ∀ q, free q → A0 q) (hAX : ∀ q, q < H.size → AX q → A0 q)
    (kx : ∀ (E : String) (ce : Cell) (q9 : Addr) (u : SX) (t : State) (H1 : Heap) (locs1 : List Loc), t.heap = H1 → s.vm.Alike t.vm → px u → BX E u t → H.size ≤ H1.size → (∀ q : Nat, q < H.size → ¬ AX q → H1[q]? = H[q]?) → va_S A0 H0 H1 locs1 → H1[q9]? = some ce → ce.vm = .none → s.vm.findClass E = some ce.cls → vx_W p l e R s m args below meth c H1 locs1 (cells + mc) (slots + ms) Q (F0 m pc ls rest) q9)
    (kk : ∀ (r : UInt32) (u : S) (t : State) (H1 : Heap) (locs1 : List Loc), t.heap = H1 → s.vm.Alike t.vm → post r u → B u t → H.size ≤ H1.size → (∀ q : Nat, q < H.size → ¬ A1 q → H1[q]? = H[q]?) → va_S A0 H0 H1 locs1 → W p l e R s m args below meth c H1 locs1 (cells + mc) (slots + ms) Q (F0 m (pc + 3) ls (.float r :: rest))) : W p l e R s m args below meth c H locs cells slots Q (F0 m pc ls st0) := by
  intro T hT X
  rcases hr T hT X with ⟨v, st₀, t, T', L, h0, X', hL, e1, e2, ⟨⟨r, u, hv, hp, hb⟩, hF⟩, st⟩ | ⟨q, st₀, t, T', L, E, ce, h0, X', hL, e1, e2, ⟨u, hp, hb, hF⟩, hce, hcv, hcl, st⟩
  · cases hv
    obtain ⟨k1, k2, k3⟩ := vx_keep h0 e1 hS hA hf hL hF
    obtain ⟨t2, a1, b1⟩ := kk r u t T'.heap (locs ++ L) e1.symm (by rw [← e2]; exact X'.warmed.alike) hp hb k1 k2 k3 T' rfl X'
    exact ⟨t2, st t2 a1, b1⟩
  · obtain ⟨k1, k2, k3⟩ := vx_keep h0 e1 hS hAX hf hL hF
    obtain ⟨t2, a1, b1⟩ := kx E ce q u t T'.heap (locs ++ L) e1.symm (by rw [← e2]; exact X'.warmed.alike) hp hb k1 k2 k3 (by rw [e1]; exact hce) hcv hcl T' rfl X'
    exact ⟨t2, st.trans a1, b1⟩
theorem vx_calld {S SX : Type} {post : UInt64 → S → Prop} {px : SX → Prop} {B : S → State → Prop} {BX : String → SX → State → Prop} {AX : Nat → Prop} (hr : vx_Run p l e R s m args below meth c H locs cells slots mc ms (F0 m pc ls st0) rest (va_Qd post B A1 a) (vx_X px BX AX) free) (hS : va_S A0 H0 H locs) (hA : ∀ q, q < H.size → A1 q → A0 q) (hf : ∀ q, free q → A0 q) (hAX : ∀ q, q < H.size → AX q → A0 q)
    (kx : ∀ (E : String) (ce : Cell) (q9 : Addr) (u : SX) (t : State) (H1 : Heap) (locs1 : List Loc), t.heap = H1 → s.vm.Alike t.vm → px u → BX E u t → H.size ≤ H1.size → (∀ q : Nat, q < H.size → ¬ AX q → H1[q]? = H[q]?) → va_S A0 H0 H1 locs1 → H1[q9]? = some ce → ce.vm = .none → s.vm.findClass E = some ce.cls → vx_W p l e R s m args below meth c H1 locs1 (cells + mc) (slots + ms) Q (F0 m pc ls rest) q9)
    (kk : ∀ (r : UInt64) (u : S) (t : State) (H1 : Heap) (locs1 : List Loc), t.heap = H1 → s.vm.Alike t.vm → post r u → B u t → H.size ≤ H1.size → (∀ q : Nat, q < H.size → ¬ A1 q → H1[q]? = H[q]?) → va_S A0 H0 H1 locs1 → W p l e R s m args below meth c H1 locs1 (cells + mc) (slots + ms) Q (F0 m (pc + 3) ls (.double r :: rest))) : W p l e R s m args below meth c H locs cells slots Q (F0 m pc ls st0) := by
  intro T hT X
  rcases hr T hT X with ⟨v, st₀, t, T', L, h0, X', hL, e1, e2, ⟨⟨r, u, hv, hp, hb⟩, hF⟩, st⟩ | ⟨q, st₀, t, T', L, E, ce, h0, X', hL, e1, e2, ⟨u, hp, hb, hF⟩, hce, hcv, hcl, st⟩
  · cases hv
    obtain ⟨k1, k2, k3⟩ := vx_keep h0 e1 hS hA hf hL hF
    obtain ⟨t2, a1, b1⟩ := kk r u t T'.heap (locs ++ L) e1.symm (by rw [← e2]; exact X'.warmed.alike) hp hb k1 k2 k3 T' rfl X'
    exact ⟨t2, st t2 a1, b1⟩
  · obtain ⟨k1, k2, k3⟩ := vx_keep h0 e1 hS hAX hf hL hF
    obtain ⟨t2, a1, b1⟩ := kx E ce q u t T'.heap (locs ++ L) e1.symm (by rw [← e2]; exact X'.warmed.alike) hp hb k1 k2 k3 (by rw [e1]; exact hce) hcv hcl T' rfl X'
    exact ⟨t2, st.trans a1, b1⟩
theorem vx_callv {S SX : Type} {post : S → Prop} {px : SX → Prop} {B : S → State → Prop} {BX : String → SX → State → Prop} {AX : Nat → Prop} (hr : vx_Run p l e R s m args below meth c H locs cells slots mc ms (F0 m pc ls st0) rest (va_Qv post B A1 a) (vx_X px BX AX) free) (hS : va_S A0 H0 H locs) (hA : ∀ q, q < H.size → A1 q → A0 q) (hf : ∀ q, free q → A0 q) (hAX : ∀ q, q < H.size → AX q → A0 q)
    (kx : ∀ (E : String) (ce : Cell) (q9 : Addr) (u : SX) (t : State) (H1 : Heap) (locs1 : List Loc), t.heap = H1 → s.vm.Alike t.vm → px u → BX E u t → H.size ≤ H1.size → (∀ q : Nat, q < H.size → ¬ AX q → H1[q]? = H[q]?) → va_S A0 H0 H1 locs1 → H1[q9]? = some ce → ce.vm = .none → s.vm.findClass E = some ce.cls → vx_W p l e R s m args below meth c H1 locs1 (cells + mc) (slots + ms) Q (F0 m pc ls rest) q9)
    (kk : ∀ (u : S) (t : State) (H1 : Heap) (locs1 : List Loc), t.heap = H1 → s.vm.Alike t.vm → post u → B u t → H.size ≤ H1.size → (∀ q : Nat, q < H.size → ¬ A1 q → H1[q]? = H[q]?) → va_S A0 H0 H1 locs1 → W p l e R s m args below meth c H1 locs1 (cells + mc) (slots + ms) Q (F0 m (pc + 3) ls (rest))) : W p l e R s m args below meth c H locs cells slots Q (F0 m pc ls st0) := by
  intro T hT X
  rcases hr T hT X with ⟨v, st₀, t, T', L, h0, X', hL, e1, e2, ⟨⟨u, hv, hp, hb⟩, hF⟩, st⟩ | ⟨q, st₀, t, T', L, E, ce, h0, X', hL, e1, e2, ⟨u, hp, hb, hF⟩, hce, hcv, hcl, st⟩
  · cases hv
    obtain ⟨k1, k2, k3⟩ := vx_keep h0 e1 hS hA hf hL hF
    obtain ⟨t2, a1, b1⟩ := kk u t T'.heap (locs ++ L) e1.symm (by rw [← e2]; exact X'.warmed.alike) hp hb k1 k2 k3 T' rfl X'
    exact ⟨t2, st t2 a1, b1⟩
  · obtain ⟨k1, k2, k3⟩ := vx_keep h0 e1 hS hAX hf hL hF
    obtain ⟨t2, a1, b1⟩ := kx E ce q u t T'.heap (locs ++ L) e1.symm (by rw [← e2]; exact X'.warmed.alike) hp hb k1 k2 k3 (by rw [e1]; exact hce) hcv hcl T' rfl X'
    exact ⟨t2, st.trans a1, b1⟩
end Rows
section Ends
variable {p : Program} {l : Launch} {e : Env} {R : Room} {s : State} {m : MethodId} {args : Array Value} {below : List Frame} {meth : Method} {c : Code} {H : Heap} {locs : List Loc} {cells slots : Nat} {Q : State → Prop}
variable {mc ms : Nat} {free : Addr → Prop} {A0 A1 : Nat → Prop} {H0 : Heap} {a : Array Value} {ls : Array Slot} {st0 rest : List Value}
variable {Qc : Array Value → State → Outcome → State → Prop} {XC : String → State → State → Prop}
/-- what a body that may throw owes at its end -/
def vx_MQ (below : List Frame) (Qc : Array Value → State → Outcome → State → Prop) (XC : String → State → State → Prop) (a : Array Value) (s : State) (mc ms : Nat) (free : Addr → Prop) : State → Prop := fun t =>
  ∃ o, t.status = .running ∧ Ended t below o ∧ vx_Q Qc XC mc ms free a s o t
theorem vx_ret {g : JFrame} {mc ms : Nat} (k : W p l e R s m args below meth c H locs cells slots (MQ below Qc args s mc ms free) g) : W p l e R s m args below meth c H locs cells slots (vx_MQ below Qc XC args s mc ms free) g := by
  intro T hT X
  obtain ⟨t, a1, o, b1, b2, b3, b4⟩ := k T hT X
  exact ⟨t, a1, o, b1, b2, Or.inl ⟨b3, b4⟩⟩
/-- not caught here: it goes on to the caller -/
theorem vx_widen {g : JFrame} {q : Addr} {k n : Nat} (h1 : cells ≤ k) (h2 : slots ≤ n) (kk : vx_W p l e R s m args below meth c H locs k n Q g q) : vx_W p l e R s m args below meth c H locs cells slots Q g q := fun T hT X => kk T hT (stand_widen X h1 h2)
theorem vx_out {pc : Nat} {E : String} {ce : Cell} {q : Addr} {mc ms : Nat} (hout : ∀ x ∈ c.exceptionTable.toList, covers x pc = false) (hlocks : meth.locks = false) (hcell : H[q]? = some ce) (hv : ce.vm = .none) (hcl : s.vm.findClass E = some ce.cls)
    (hx : ∀ t : State, t.heap = H → s.vm.Alike t.vm → XC E s t) (hf : ∀ z ∈ locs, free z.base) (hc : cells ≤ mc) (hs : slots ≤ ms) :
    vx_W p l e R s m args below meth c H locs cells slots (vx_MQ below Qc XC args s mc ms free) (F0 m pc ls rest) q := by
  intro T hT X
  obtain ⟨st1, hrun, hend, hW, hsm⟩ := X.leaveThrown q (g := F0 m pc ls rest) rfl rfl rfl hout hlocks
  have hcell9 : (T.setFrames (.throwing q :: below)).heap[q]? = some ce := by
    show T.heap[q]? = some ce
    rw [hT]; exact hcell
  exact ⟨_, st1, .threw q, hrun, hend, Or.inr ⟨q, rfl, E, ce, locs, hx _ hT hW.alike, hcell9, hv, hcl, hW, hsm.mono hc hs, hf⟩⟩
theorem vx_frame {U : State} {k n : Nat} (h : s.sameButNew ({ U with vm := s.vm } : State) locs k n) : s.heap.size ≤ U.heap.size ∧ ∀ q : Nat, q < s.heap.size → (∀ z ∈ locs, z.base ≠ q) → U.heap[q]? = s.heap[q]? := by
  obtain ⟨-, h2, -, -, -, h6⟩ := h
  refine ⟨h2, fun q hq hz => ?_⟩
  obtain ⟨c9, e1, e2, e3, e4⟩ := h6 q _ (Array.getElem?_eq_getElem hq)
  have hs : c9.slots = (s.heap[q]).slots := Array.ext_getElem? fun i => e4 i fun hm => hz _ hm rfl
  have h9 : c9 = s.heap[q] := by
    rw [hs] at e2
    exact e2
  have e5 : U.heap[q]? = some c9 := e1
  rw [e5, h9, Array.getElem?_eq_getElem hq]
/-- the words of a throw but the four that speak of the heap -/
def vx_no (w : Cond) : Bool := decide (w ≠ .isRef (.static Bundle.tN "UNASSIGNED_STACK" Bundle.steD)) && decide (w ≠ .isRef (.static Bundle.tN "SUPPRESSED_SENTINEL" Bundle.listD)) && decide (w ≠ .laysStatic Bundle.tN "UNASSIGNED_STACK" Bundle.steD) && decide (w ≠ .laysStatic Bundle.tN "SUPPRESSED_SENTINEL" Bundle.listD)
def vx_at0 (own : String) (ic : Nat) (X : String) (names : List String) : List Cond := (Bundle.ownAtoms0 own ic X names).filter vx_no
def vx_atS (own : String) (ic : Nat) (X : String) (names : List String) : List Cond := (Bundle.ownAtoms own ic X names).filter vx_no
/-- a word that the tables alone decide, or a good one -/
def vx_ot (w : Cond) : Bool := w.onTables || goodWord w
theorem vx_ot_at {args a' : Array Value} {s U : State} {w : Cond} (hW : s.WarmedH U.vm) (hvm : s.vm = U.vm) (hg : vx_ot w = true) (h : w.before args s = true) : w.before a' U = true := by
  simp only [vx_ot, Bool.or_eq_true] at hg
  rcases hg with hg | hg
  · exact va_tabs hg hvm h
  · exact word_at hW (good_of_word hg) h
/-- a list's words: the good ones out of the method's own list, the others by premises of their own -/
theorem vx_hat {args : Array Value} {s : State} {L B : List Cond} (h1 : ∀ w ∈ L.filter goodWord, w.before args s = true) (h2 : ∀ w ∈ L.filter (fun w => !goodWord w), w ∈ B) (h3 : ∀ w ∈ B, w.before args s = true) : ∀ w ∈ L, w.before args s = true := by
  intro w hw
  by_cases g : goodWord w = true
  · exact h1 w (List.mem_filter.mpr ⟨hw, g⟩)
  · refine h3 w (h2 w (List.mem_filter.mpr ⟨hw, ?_⟩))
    show (!goodWord w) = true
    cases hgw : goodWord w
    · rfl
    · exact absurd hgw g
theorem vx_c {args : Array Value} {s : State} {w : Cond} {B : List Cond} (h : w.before args s = true) (t : ∀ w ∈ B, w.before args s = true) : ∀ w' ∈ w :: B, w'.before args s = true := fun w' h' => (List.mem_cons.mp h').elim (fun e => by rw [e]; exact h) (t w')
theorem vx_n {args : Array Value} {s : State} : ∀ w ∈ ([] : List Cond), w.before args s = true := fun _ h => nomatch h
theorem vx_own {args : Array Value} {s : State} {L : List Cond} (h1 : ∀ w ∈ L.filter vx_no, w.before args s = true)
    (hU : (Cond.isRef (.static Bundle.tN "UNASSIGNED_STACK" Bundle.steD)).before args s = true) (hN : (Cond.isRef (.static Bundle.tN "SUPPRESSED_SENTINEL" Bundle.listD)).before args s = true)
    (lU : (Cond.laysStatic Bundle.tN "UNASSIGNED_STACK" Bundle.steD).before args s = true) (lN : (Cond.laysStatic Bundle.tN "SUPPRESSED_SENTINEL" Bundle.listD).before args s = true) : ∀ w ∈ L, w.before args s = true := by
  intro w hw
  by_cases e1 : w = .isRef (.static Bundle.tN "UNASSIGNED_STACK" Bundle.steD)
  · rw [e1]; exact hU
  · by_cases e2 : w = .isRef (.static Bundle.tN "SUPPRESSED_SENTINEL" Bundle.listD)
    · rw [e2]; exact hN
    · by_cases e3 : w = .laysStatic Bundle.tN "UNASSIGNED_STACK" Bundle.steD
      · rw [e3]; exact lU
      · by_cases e4 : w = .laysStatic Bundle.tN "SUPPRESSED_SENTINEL" Bundle.listD
        · rw [e4]; exact lN
        · exact h1 w (List.mem_filter.mpr ⟨hw, by unfold vx_no; rw [decide_eq_true e1, decide_eq_true e2, decide_eq_true e3, decide_eq_true e4]; rfl⟩)
/-- where a static field lies, its class's statics cell in H -/
def vx_L (C n d : String) (A : Nat → Prop) (U : State) (H : Heap) : Prop := ∃ (c : ClassId) (k : Class) (i : Nat) (f : Field) (a : Nat) (cell : Cell), U.vm.findClass C = some c ∧ U.fieldFound? C n d = some (c, k, i, f) ∧ f.isStatic = true ∧ k.statics = some a ∧ H[a]? = some cell ∧ cell.vm.isStatics = true ∧ cell.cls = c ∧ f.slot < cell.slots.size ∧ k.staticTypes[f.slot]? = some f.type ∧ ¬ A a
theorem vx_L.moved {C n d : String} {A : Nat → Prop} {u U : State} {H : Heap} (hvm : u.vm.Alike U.vm) (h : vx_L C n d A u H) : vx_L C n d A U H := by
  obtain ⟨c, k, i, f, a, cell, h1, h2, h3, h4, h5, h6, h7, h8, h9, h10⟩ := h
  obtain ⟨k', hi', he⟩ := State.fieldFound?_setVm hvm h2
  exact ⟨c, k', i, f, a, cell, by rw [hvm.findClass]; exact h1, hi', h3, by rw [he]; exact h4, h5, h6, h7, h8, by rw [he]; exact h9, h10⟩
theorem vx_L.kept {C n d : String} {A : Nat → Prop} {U : State} {H H1 : Heap} (h : vx_L C n d A U H) (hq : ∀ a : Nat, a < H.size → ¬ A a → H1[a]? = H[a]?) : vx_L C n d A U H1 := by
  obtain ⟨c, k, i, f, a, cell, h1, h2, h3, h4, h5, h6, h7, h8, h9, h10⟩ := h
  exact ⟨c, k, i, f, a, cell, h1, h2, h3, h4, by rw [hq a (Array.getElem?_eq_some_iff.mp h5).1 h10]; exact h5, h6, h7, h8, h9, h10⟩
theorem vx_L.narrow {C n d : String} {A B : Nat → Prop} {U : State} {H : Heap} (h : vx_L C n d A U H) (hAB : ∀ q, B q → A q) : vx_L C n d B U H := by
  obtain ⟨c, k, i, f, a, cell, h1, h2, h3, h4, h5, h6, h7, h8, h9, h10⟩ := h
  exact ⟨c, k, i, f, a, cell, h1, h2, h3, h4, h5, h6, h7, h8, h9, fun z => h10 (hAB _ z)⟩
theorem vx_L.word {C n d : String} {A : Nat → Prop} {s : State} {args : Array Value} (h : vx_L C n d A s s.heap) : (Cond.laysStatic C n d).before args s = true := by
  obtain ⟨c, k, i, f, a, cell, h1, h2, h3, h4, h5, h6, h7, h8, h9, -⟩ := h
  show (Cond.laysStatic C n d).holds args s none s [] = true
  exact Cond.laysStatic_of h1 h2 h3 h4 h5 h6 h7 h8 h9
/-- .. and what it holds: null or some reference -/
def vx_Zq (C n d : String) (A : Nat → Prop) (U : State) (H : Heap) : Prop := va_Zq C n d A U H ∧ vx_L C n d A U H
theorem vx_Zq.moved {C n d : String} {A : Nat → Prop} {u U : State} {H : Heap} (hvm : u.vm.Alike U.vm) (h : vx_Zq C n d A u H) : vx_Zq C n d A U H := ⟨va_Zq.moved hvm h.1, vx_L.moved hvm h.2⟩
theorem vx_Zq.kept {C n d : String} {A : Nat → Prop} {U : State} {H H1 : Heap} (h : vx_Zq C n d A U H) (hq : ∀ a : Nat, a < H.size → ¬ A a → H1[a]? = H[a]?) : vx_Zq C n d A U H1 := ⟨va_Zq.kept h.1 hq, vx_L.kept h.2 hq⟩
theorem vx_Zq.narrow {C n d : String} {A B : Nat → Prop} {U : State} {H : Heap} (h : vx_Zq C n d A U H) (hAB : ∀ q, B q → A q) : vx_Zq C n d B U H := ⟨va_Zq.narrow h.1 hAB, vx_L.narrow h.2 hAB⟩
theorem vx_Zqof {args : Array Value} {s : State} {C n d : String} {A : Nat → Prop} (hl : (Cond.laysStatic C n d).before args s = true) (hini : (Cond.initialized C).before args s = true) (h : (Cond.isRef (.static C n d)).before args s = true) (hA : ∀ a : Nat, a < s.heap.size → ¬ A a) : vx_Zq C n d A s s.heap := by
  refine ⟨va_Zqof hl hini h hA, ?_⟩
  obtain ⟨c, k, i, f, a, cell, h1, h2, h3, h4, h5, h6, h7, h8, h9⟩ := Cond.laysStatic_spec hl
  exact ⟨c, k, i, f, a, cell, h1, h2, h3, h4, h5, h6, h7, h8, h9, hA a (Array.getElem?_eq_some_iff.mp h5).1⟩
theorem vx_isRef {C n d : String} {v : Value} {A : Nat → Prop} {s : State} {args : Array Value} (h : va_Z C n d v A s s.heap) (hv : v.isRef = true) : (Cond.isRef (.static C n d)).before args s = true := by
  obtain ⟨cf, kf, fi, f, a, cell, h1, h2, h3, h4, h5, h6, h7, -⟩ := h
  have he : (Term.static C n d).eval args s none [] s = some v := by
    simp [Term.eval, State.fieldNamed?, h1, h2, h4, h5, h6, h7]
  simp only [Cond.before, Cond.holds, Cond.value, he]
  cases v <;> simp_all [Value.isRef]
theorem vx_isRefq {C n d : String} {A : Nat → Prop} {s : State} {args : Array Value} (h : va_Zq C n d A s s.heap) : (Cond.isRef (.static C n d)).before args s = true := by
  rcases h with h | ⟨t, h⟩
  · exact vx_isRef h rfl
  · exact vx_isRef h rfl
/-- the same frame, seen from here: as if the method were called anew in this heap -/
theorem vx_rebase {T : State} (X : Stand p l e R s m args below meth c T locs cells slots) {R' : Room} (hf : R'.frames ≤ R.frames) (hl : R'.locals ≤ R.locals) (hc : cells + R'.cells ≤ R.cells) (hs : slots + R'.slots ≤ R.slots) :
    Stand p l e R' ((T.setVm s.vm).setFrames (.invoking m args :: below)) m args below meth c T [] 0 0 := by
  have htop : (T.setVm s.vm).topJava?.isSome := X.here.top
  have hF : ((T.setVm s.vm).setFrames (.invoking m args :: below)).frames = .invoking m args :: below := State.frames_setFrames _ (State.cur_lt_of_top htop)
  obtain ⟨g₀, hg0⟩ := Option.isSome_iff_exists.mp htop
  obtain ⟨r, hr⟩ := State.topJava?_eq_some.mp hg0
  have hl9 : e.platform.stackLimits (T.setVm s.vm).me = e.platform.stackLimits s.me := X.limits
  have hb9 : (T.setVm s.vm).me.stackBytes = s.me.stackBytes := X.bytes
  refine ⟨X.admits, X.cas, X.clock, hF, ?_, X.hears, X.method, X.code, X.here, X.tail, X.warmed, ?_, ?_, ?_⟩
  · have h := X.room
    have hU : ((T.setVm s.vm).setFrames (.invoking m args :: below)).localsInUse = s.localsInUse := by
      rw [State.localsInUse_invoking hF (meth := meth) (c := c) X.method X.code, State.localsInUse_invoking X.frames X.method X.code]
    simp only [State.hasRoom, Bool.and_eq_true, decide_eq_true_eq] at h ⊢
    obtain ⟨⟨⟨⟨h1, h2, h3, h4, h5, h6⟩, h7⟩, h8⟩, h9⟩ := h
    rw [X.frames, List.length_cons] at h2 h3
    have q1 := X.heapSize
    have q2 := X.used
    simp only [hF, hU, List.length_cons, State.stackLimits_setFrames, State.stackBytes_setFrames, hl9, hb9]
    refine ⟨⟨⟨⟨by omega, by omega, by omega, by omega, by omega, h6⟩, ?_⟩, ?_⟩, X.book⟩
    · show T.heap.size + R'.cells ≤ e.platform.maxCells
      omega
    · show T.slotsUsed + R'.slots ≤ e.platform.maxSlots
      omega
  · rw [State.stackLimits_setFrames]; rfl
  · rw [State.stackBytes_setFrames]; rfl
  · refine ⟨?_, Nat.le_refl _, Nat.le_refl _, ?_, ?_, fun a c9 h9 => ⟨c9, h9, rfl, rfl, fun _ _ => rfl⟩⟩
    · obtain ⟨t, ht, -⟩ := State.frames_cons hr
      show T.setVm s.vm = { ((T.setVm s.vm).setFrames (.invoking m args :: below)).setFrames (T.setVm s.vm).frames with heap := T.heap, slotsUsed := T.slotsUsed }
      rw [State.setFrames_setFrames, State.setFrames_self ht]
      rfl
    · show T.slotsUsed = T.slotsUsed + ((T.heap.toList.drop T.heap.size).map (·.slots.size)).sum
      rw [List.drop_eq_nil_of_le (Nat.le_of_eq Array.length_toList)]
      rfl
    · show ((T.heap.toList.drop T.heap.size).map (·.slots.size)).sum ≤ 0
      rw [List.drop_eq_nil_of_le (Nat.le_of_eq Array.length_toList)]
      exact Nat.le_refl _
/-- 'throw new E()': new; dup; invokespecial; athrow -/
theorem vx_throw0 {cc : ByteArray} {pc : Nat} (hexec : p.tables.exec = Jvm.exec) (hb : c.code = cc) (hl : l.stackTraces = false) {own cls : String} {names : List String} {ik ic mc ms : Nat} {A : Nat → Prop}
    (hown : s.vm.findClass own = some m.cls) (hcls : Bundle.fit cls = true) (hnames : ∀ n ∈ names, Bundle.fit n = true)
    (hk : (Cond.classLink own ik cls).before args s = true) (hini : (Cond.initialized cls).before args s = true) (hat : ∀ w ∈ vx_at0 own ic cls names, w.before args s = true)
    (hgood : ∀ w ∈ Cond.classLink own ik cls :: Cond.initialized cls :: vx_at0 own ic cls names, vx_ot w = true)
    (hU : vx_Zq Bundle.tN "UNASSIGNED_STACK" Bundle.steD A s s.heap) (hN : vx_Zq Bundle.tN "SUPPRESSED_SENTINEL" Bundle.listD A s s.heap) (hS : va_S A s.heap H locs) (hsize : ls.size = c.maxLocals)
    (d0 : decode cc pc = .ok (.new ik, 3)) (d3 : decode cc (pc + 3) = .ok (.dup, 1)) (d4 : decode cc (pc + 4) = .ok (.invokespecial ic, 3)) (d7 : decode cc (pc + 7) = .ok (.athrow, 1))
    (hout : ∀ x ∈ c.exceptionTable.toList, covers x (pc + 7) = false)
    (hRframes : names.length + 3 < R.frames) (hRlocals : (rest.map fun v => v.category).sum + (13 * (names.length + 1) + 42) ≤ R.locals) (hRcells : cells + 1 ≤ R.cells) (hRslots : slots + 6 ≤ R.slots) (hlocks : meth.locks = false)
    (hx : ∀ t : State, s.vm.Alike t.vm → H.size ≤ t.heap.size → (∀ q : Nat, q < H.size → t.heap[q]? = H[q]?) → XC cls s t)
    (hf : ∀ z ∈ locs, free z.base) (hc : cells + 1 ≤ mc) (hs : slots + 6 ≤ ms) :
    W p l e R s m args below meth c H locs cells slots (vx_MQ below Qc XC args s mc ms free) (F0 m pc ls rest) := by
  intro T hT X
  have htr : e.platform.stackTraces = false := (show e.platform.stackTraces = l.stackTraces by rw [X.admits.platform]).trans hl
  have Y := vx_rebase X (R' := { frames := R.frames, locals := R.locals, cells := 1, slots := 6 }) (Nat.le_refl _) (Nat.le_refl _) hRcells hRslots
  obtain ⟨s', hA⟩ : ∃ z, z = (T.setVm s.vm).setFrames (.invoking m args :: below) := ⟨_, rfl⟩
  rw [← hA] at Y
  have hvm : s'.vm = s.vm := by rw [hA]; rfl
  have hhp : s'.heap = H := by rw [hA]; exact hT
  have hW0 : s.WarmedH s'.vm := by rw [hvm]; exact State.WarmedH.refl s
  have hat' : ∀ w ∈ vx_at0 own ic cls names, w.before args s' = true := fun w hw => vx_ot_at hW0 hvm.symm (hgood w (List.mem_cons_of_mem _ (List.mem_cons_of_mem _ hw))) (hat w hw)
  have hk' : (Cond.classLink own ik cls).before args s' = true := vx_ot_at hW0 hvm.symm (hgood _ List.mem_cons_self) hk
  have hini' : (Cond.initialized cls).before args s' = true := vx_ot_at hW0 hvm.symm (hgood _ (List.mem_cons_of_mem _ List.mem_cons_self)) hini
  have hU' : vx_Zq Bundle.tN "UNASSIGNED_STACK" Bundle.steD A s' s'.heap := by rw [hhp]; exact vx_Zq.moved hW0.alike (hU.kept hS.2.1)
  have hN' : vx_Zq Bundle.tN "SUPPRESSED_SENTINEL" Bundle.listD A s' s'.heap := by rw [hhp]; exact vx_Zq.moved hW0.alike (hN.kept hS.2.1)
  have h : ∀ w ∈ Bundle.ownAtoms0 own ic cls names, w.before args s' = true := vx_own hat' (vx_isRefq hU'.1) (vx_isRefq hN'.1) hU'.2.word hN'.2.word
  have hown' : s'.vm.findClass own = some m.cls := by rw [hvm]; exact hown
  have hins : (Cond.instantiable cls 6).before args s' = true := h _ (by simp [Bundle.ownAtoms0])
  obtain ⟨vm₁, cX, kX, hfX, hkX, -, -, X₁, st1⟩ := Y.newCold hexec (own := own) (C := cls) (index := ik) (n := 6) hown' hk' hins hini'
    (g := F0 m pc ls rest) rfl (by rw [hb]; exact d0) (Nat.le_refl _) (Nat.le_refl _)
  generalize hT1 : (T.setVm vm₁).pushCell { cls := cX, slots := kX.instanceTypes.map defaultValue, vm := .none } = T1 at X₁ st1
  have hcat : (Value.ref T.heap.size).category = 1 := rfl
  have hcellA : T1.heap[T.heap.size]? = some (freshCell cX kX) := by rw [← hT1]; exact State.heap_pushCell_size _ _
  have d3' : decode c.code (pc + 3) = .ok (.dup, 1) := by rw [hb]; exact d3
  obtain ⟨U, hsteps, hrun, hend, hW, hsame, ce, hce, hO⟩ := X₁.ctorThrow0 hexec htr (own := own) (cls := cls) (names := names) (ic := ic) hown' hcls hnames h (fun x hx => nomatch hx) hfX hkX hcellA (by rw [hhp, hT]; exact Nat.le_refl _)
    (g := { method := m, pc := pc + 4, locals := ls, stack := .ref T.heap.size :: .ref T.heap.size :: rest, locked := none }) rfl hsize rfl rfl (rest := rest) rfl
    (by rw [hb]; exact d4) (by rw [hb]; exact d7) hout hRframes (by simp only [List.map_cons, List.sum_cons, hcat]; omega) hlocks
  obtain ⟨f1, f2⟩ := vx_frame hsame
  rw [hhp] at f1 f2
  have hWs : s.WarmedH U.vm := State.WarmedH.trans hW0 hW
  have hcl : s.vm.findClass cls = some ce.cls := by
    have h9 := hO.cls
    rw [hvm] at h9
    exact h9
  have hall : s.sameButNew ({ U with vm := s.vm } : State) locs mc ms := by
    subst hA
    obtain ⟨e1, e2⟩ := hsame
    rw [State.setFrames_setFrames] at e1
    have h2 : (T.setVm s.vm).sameButNew ({ U with vm := s.vm } : State) [] (0 + 1) (0 + 6) := ⟨e1, e2⟩
    have h3 := X.same.trans h2
    rw [List.append_nil] at h3
    exact h3.mono hc hs
  refine ⟨U, ?_, .threw T.heap.size, hrun, hend, Or.inr ⟨T.heap.size, rfl, cls, ce, locs, hx U hWs.alike f1 (fun q hq => f2 q hq (fun z hz => nomatch hz)), hce, hO.vm, hcl, hWs, hall, hf⟩⟩
  refine st1 _ ?_
  show Steps p.tables e below (T1.setTop { method := m, pc := pc + 3, locals := ls, stack := .ref T.heap.size :: rest, locked := none }) _
  jvm_step X₁.here [X₁.here.top, hexec, d3', Value.category]
  exact hsteps
/-- 'throw new E("text")': new; dup; ldc; invokespecial; athrow -/
theorem vx_throwS {cc : ByteArray} {pc : Nat} (hexec : p.tables.exec = Jvm.exec) (hb : c.code = cc) (hl : l.stackTraces = false) {own cls text : String} {names : List String} {ik is ic mc ms sa : Nat} {A : Nat → Prop}
    (hown : s.vm.findClass own = some m.cls) (hcls : Bundle.fit cls = true) (hnames : ∀ n ∈ names, Bundle.fit n = true)
    (hk : (Cond.classLink own ik cls).before args s = true) (hini : (Cond.initialized cls).before args s = true) (hstr : vk_R own is text sa s) (hat : ∀ w ∈ vx_atS own ic cls names, w.before args s = true)
    (hgood : ∀ w ∈ Cond.classLink own ik cls :: Cond.initialized cls :: vx_atS own ic cls names, vx_ot w = true)
    (hU : vx_Zq Bundle.tN "UNASSIGNED_STACK" Bundle.steD A s s.heap) (hN : vx_Zq Bundle.tN "SUPPRESSED_SENTINEL" Bundle.listD A s s.heap) (hS : va_S A s.heap H locs) (hsize : ls.size = c.maxLocals)
    (d0 : decode cc pc = .ok (.new ik, 3)) (d3 : decode cc (pc + 3) = .ok (.dup, 1)) (d4 : decode cc (pc + 4) = .ok (.ldc is, 2)) (d6 : decode cc (pc + 6) = .ok (.invokespecial ic, 3)) (d9 : decode cc (pc + 9) = .ok (.athrow, 1))
    (hout : ∀ x ∈ c.exceptionTable.toList, covers x (pc + 9) = false)
    (hRframes : names.length + 3 < R.frames) (hRlocals : (rest.map fun v => v.category).sum + (13 * (names.length + 1) + 43) ≤ R.locals) (hRcells : cells + 1 ≤ R.cells) (hRslots : slots + 6 ≤ R.slots) (hlocks : meth.locks = false)
    (hx : ∀ t : State, s.vm.Alike t.vm → H.size ≤ t.heap.size → (∀ q : Nat, q < H.size → t.heap[q]? = H[q]?) → XC cls s t)
    (hf : ∀ z ∈ locs, free z.base) (hc : cells + 1 ≤ mc) (hs : slots + 6 ≤ ms) :
    W p l e R s m args below meth c H locs cells slots (vx_MQ below Qc XC args s mc ms free) (F0 m pc ls rest) := by
  intro T hT X
  have htr : e.platform.stackTraces = false := (show e.platform.stackTraces = l.stackTraces by rw [X.admits.platform]).trans hl
  have Y := vx_rebase X (R' := { frames := R.frames, locals := R.locals, cells := 1, slots := 6 }) (Nat.le_refl _) (Nat.le_refl _) hRcells hRslots
  obtain ⟨s', hA⟩ : ∃ z, z = (T.setVm s.vm).setFrames (.invoking m args :: below) := ⟨_, rfl⟩
  rw [← hA] at Y
  have hvm : s'.vm = s.vm := by rw [hA]; rfl
  have hhp : s'.heap = H := by rw [hA]; exact hT
  have hW0 : s.WarmedH s'.vm := by rw [hvm]; exact State.WarmedH.refl s
  have hat' : ∀ w ∈ vx_atS own ic cls names, w.before args s' = true := fun w hw => vx_ot_at hW0 hvm.symm (hgood w (List.mem_cons_of_mem _ (List.mem_cons_of_mem _ hw))) (hat w hw)
  have hk' : (Cond.classLink own ik cls).before args s' = true := vx_ot_at hW0 hvm.symm (hgood _ List.mem_cons_self) hk
  have hini' : (Cond.initialized cls).before args s' = true := vx_ot_at hW0 hvm.symm (hgood _ (List.mem_cons_of_mem _ List.mem_cons_self)) hini
  have hU' : vx_Zq Bundle.tN "UNASSIGNED_STACK" Bundle.steD A s' s'.heap := by rw [hhp]; exact vx_Zq.moved hW0.alike (hU.kept hS.2.1)
  have hN' : vx_Zq Bundle.tN "SUPPRESSED_SENTINEL" Bundle.listD A s' s'.heap := by rw [hhp]; exact vx_Zq.moved hW0.alike (hN.kept hS.2.1)
  have h : ∀ w ∈ Bundle.ownAtoms own ic cls names, w.before args s' = true := vx_own hat' (vx_isRefq hU'.1) (vx_isRefq hN'.1) hU'.2.word hN'.2.word
  have hown' : s'.vm.findClass own = some m.cls := by rw [hvm]; exact hown
  have hins : (Cond.instantiable cls 6).before args s' = true := h _ (by simp [Bundle.ownAtoms])
  obtain ⟨vm₁, cX, kX, hfX, hkX, -, -, X₁, st1⟩ := Y.newCold hexec (own := own) (C := cls) (index := ik) (n := 6) hown' hk' hins hini'
    (g := F0 m pc ls rest) rfl (by rw [hb]; exact d0) (Nat.le_refl _) (Nat.le_refl _)
  generalize hT1 : (T.setVm vm₁).pushCell { cls := cX, slots := kX.instanceTypes.map defaultValue, vm := .none } = T1 at X₁ st1
  have hcat : (Value.ref T.heap.size).category = 1 := rfl
  have hcellA : T1.heap[T.heap.size]? = some (freshCell cX kX) := by rw [← hT1]; exact State.heap_pushCell_size _ _
  have d3' : decode c.code (pc + 3) = .ok (.dup, 1) := by rw [hb]; exact d3
  have d4' : decode c.code (pc + 4) = .ok (.ldc is, 2) := by rw [hb]; exact d4
  have hstr' : vk_R own is text sa s' := vk_R.warm hW0 hstr
  obtain ⟨U, hsteps, hrun, hend, hW, hsame, ce, hce, hO⟩ := X₁.ctorThrowS hexec htr (own := own) (cls := cls) (names := names) (ic := ic) hown' hcls hnames h (fun x hx => nomatch hx) hfX hkX hcellA (by rw [hhp, hT]; exact Nat.le_refl _) (msg := .ref sa) rfl
    (g := { method := m, pc := pc + 6, locals := ls, stack := .ref sa :: .ref T.heap.size :: .ref T.heap.size :: rest, locked := none }) rfl hsize rfl rfl (rest := rest) rfl
    (by rw [hb]; exact d6) (by rw [hb]; exact d9) hout hRframes (by simp only [List.map_cons, List.sum_cons, hcat]; omega) hlocks
  obtain ⟨f1, f2⟩ := vx_frame hsame
  rw [hhp] at f1 f2
  have hWs : s.WarmedH U.vm := State.WarmedH.trans hW0 hW
  have hcl : s.vm.findClass cls = some ce.cls := by
    have h9 := hO.cls
    rw [hvm] at h9
    exact h9
  have hall : s.sameButNew ({ U with vm := s.vm } : State) locs mc ms := by
    subst hA
    obtain ⟨e1, e2⟩ := hsame
    rw [State.setFrames_setFrames] at e1
    have h2 : (T.setVm s.vm).sameButNew ({ U with vm := s.vm } : State) [] (0 + 1) (0 + 6) := ⟨e1, e2⟩
    have h3 := X.same.trans h2
    rw [List.append_nil] at h3
    exact h3.mono hc hs
  refine ⟨U, ?_, .threw T.heap.size, hrun, hend, Or.inr ⟨T.heap.size, rfl, cls, ce, locs, hx U hWs.alike f1 (fun q hq => f2 q hq (fun z hz => nomatch hz)), hce, hO.vm, hcl, hWs, hall, hf⟩⟩
  refine st1 _ ?_
  show Steps p.tables e below (T1.setTop { method := m, pc := pc + 3, locals := ls, stack := .ref T.heap.size :: rest, locked := none }) _
  jvm_step X₁.here [X₁.here.top, hexec, d3', Value.category]
  exact X₁.ldcString hexec (own := own) (text := text) (index := is) (a := sa) hown' hstr'.1 hstr'.2
    (g := { method := m, pc := pc + 4, locals := ls, stack := .ref T.heap.size :: .ref T.heap.size :: rest, locked := none }) rfl d4' _ hsteps
/-- 'throw new E("text")', the text by a wide index -/
theorem vx_throwSW {cc : ByteArray} {pc : Nat} (hexec : p.tables.exec = Jvm.exec) (hb : c.code = cc) (hl : l.stackTraces = false) {own cls text : String} {names : List String} {ik is ic mc ms sa : Nat} {A : Nat → Prop}
    (hown : s.vm.findClass own = some m.cls) (hcls : Bundle.fit cls = true) (hnames : ∀ n ∈ names, Bundle.fit n = true)
    (hk : (Cond.classLink own ik cls).before args s = true) (hini : (Cond.initialized cls).before args s = true) (hstr : vk_R own is text sa s) (hat : ∀ w ∈ vx_atS own ic cls names, w.before args s = true)
    (hgood : ∀ w ∈ Cond.classLink own ik cls :: Cond.initialized cls :: vx_atS own ic cls names, vx_ot w = true)
    (hU : vx_Zq Bundle.tN "UNASSIGNED_STACK" Bundle.steD A s s.heap) (hN : vx_Zq Bundle.tN "SUPPRESSED_SENTINEL" Bundle.listD A s s.heap) (hS : va_S A s.heap H locs) (hsize : ls.size = c.maxLocals)
    (d0 : decode cc pc = .ok (.new ik, 3)) (d3 : decode cc (pc + 3) = .ok (.dup, 1)) (d4 : decode cc (pc + 4) = .ok (.ldc_w is, 3)) (d7 : decode cc (pc + 7) = .ok (.invokespecial ic, 3)) (d10 : decode cc (pc + 10) = .ok (.athrow, 1))
    (hout : ∀ x ∈ c.exceptionTable.toList, covers x (pc + 10) = false)
    (hRframes : names.length + 3 < R.frames) (hRlocals : (rest.map fun v => v.category).sum + (13 * (names.length + 1) + 43) ≤ R.locals) (hRcells : cells + 1 ≤ R.cells) (hRslots : slots + 6 ≤ R.slots) (hlocks : meth.locks = false)
    (hx : ∀ t : State, s.vm.Alike t.vm → H.size ≤ t.heap.size → (∀ q : Nat, q < H.size → t.heap[q]? = H[q]?) → XC cls s t)
    (hf : ∀ z ∈ locs, free z.base) (hc : cells + 1 ≤ mc) (hs : slots + 6 ≤ ms) :
    W p l e R s m args below meth c H locs cells slots (vx_MQ below Qc XC args s mc ms free) (F0 m pc ls rest) := by
  intro T hT X
  have htr : e.platform.stackTraces = false := (show e.platform.stackTraces = l.stackTraces by rw [X.admits.platform]).trans hl
  have Y := vx_rebase X (R' := { frames := R.frames, locals := R.locals, cells := 1, slots := 6 }) (Nat.le_refl _) (Nat.le_refl _) hRcells hRslots
  obtain ⟨s', hA⟩ : ∃ z, z = (T.setVm s.vm).setFrames (.invoking m args :: below) := ⟨_, rfl⟩
  rw [← hA] at Y
  have hvm : s'.vm = s.vm := by rw [hA]; rfl
  have hhp : s'.heap = H := by rw [hA]; exact hT
  have hW0 : s.WarmedH s'.vm := by rw [hvm]; exact State.WarmedH.refl s
  have hat' : ∀ w ∈ vx_atS own ic cls names, w.before args s' = true := fun w hw => vx_ot_at hW0 hvm.symm (hgood w (List.mem_cons_of_mem _ (List.mem_cons_of_mem _ hw))) (hat w hw)
  have hk' : (Cond.classLink own ik cls).before args s' = true := vx_ot_at hW0 hvm.symm (hgood _ List.mem_cons_self) hk
  have hini' : (Cond.initialized cls).before args s' = true := vx_ot_at hW0 hvm.symm (hgood _ (List.mem_cons_of_mem _ List.mem_cons_self)) hini
  have hU' : vx_Zq Bundle.tN "UNASSIGNED_STACK" Bundle.steD A s' s'.heap := by rw [hhp]; exact vx_Zq.moved hW0.alike (hU.kept hS.2.1)
  have hN' : vx_Zq Bundle.tN "SUPPRESSED_SENTINEL" Bundle.listD A s' s'.heap := by rw [hhp]; exact vx_Zq.moved hW0.alike (hN.kept hS.2.1)
  have h : ∀ w ∈ Bundle.ownAtoms own ic cls names, w.before args s' = true := vx_own hat' (vx_isRefq hU'.1) (vx_isRefq hN'.1) hU'.2.word hN'.2.word
  have hown' : s'.vm.findClass own = some m.cls := by rw [hvm]; exact hown
  have hins : (Cond.instantiable cls 6).before args s' = true := h _ (by simp [Bundle.ownAtoms])
  obtain ⟨vm₁, cX, kX, hfX, hkX, -, -, X₁, st1⟩ := Y.newCold hexec (own := own) (C := cls) (index := ik) (n := 6) hown' hk' hins hini'
    (g := F0 m pc ls rest) rfl (by rw [hb]; exact d0) (Nat.le_refl _) (Nat.le_refl _)
  generalize hT1 : (T.setVm vm₁).pushCell { cls := cX, slots := kX.instanceTypes.map defaultValue, vm := .none } = T1 at X₁ st1
  have hcat : (Value.ref T.heap.size).category = 1 := rfl
  have hcellA : T1.heap[T.heap.size]? = some (freshCell cX kX) := by rw [← hT1]; exact State.heap_pushCell_size _ _
  have d3' : decode c.code (pc + 3) = .ok (.dup, 1) := by rw [hb]; exact d3
  have d4' : decode c.code (pc + 4) = .ok (.ldc_w is, 3) := by rw [hb]; exact d4
  have hstr' : vk_R own is text sa s' := vk_R.warm hW0 hstr
  obtain ⟨U, hsteps, hrun, hend, hW, hsame, ce, hce, hO⟩ := X₁.ctorThrowS hexec htr (own := own) (cls := cls) (names := names) (ic := ic) hown' hcls hnames h (fun x hx => nomatch hx) hfX hkX hcellA (by rw [hhp, hT]; exact Nat.le_refl _) (msg := .ref sa) rfl
    (g := { method := m, pc := pc + 7, locals := ls, stack := .ref sa :: .ref T.heap.size :: .ref T.heap.size :: rest, locked := none }) rfl hsize rfl rfl (rest := rest) rfl
    (by rw [hb]; exact d7) (by rw [hb]; exact d10) hout hRframes (by simp only [List.map_cons, List.sum_cons, hcat]; omega) hlocks
  obtain ⟨f1, f2⟩ := vx_frame hsame
  rw [hhp] at f1 f2
  have hWs : s.WarmedH U.vm := State.WarmedH.trans hW0 hW
  have hcl : s.vm.findClass cls = some ce.cls := by
    have h9 := hO.cls
    rw [hvm] at h9
    exact h9
  have hall : s.sameButNew ({ U with vm := s.vm } : State) locs mc ms := by
    subst hA
    obtain ⟨e1, e2⟩ := hsame
    rw [State.setFrames_setFrames] at e1
    have h2 : (T.setVm s.vm).sameButNew ({ U with vm := s.vm } : State) [] (0 + 1) (0 + 6) := ⟨e1, e2⟩
    have h3 := X.same.trans h2
    rw [List.append_nil] at h3
    exact h3.mono hc hs
  refine ⟨U, ?_, .threw T.heap.size, hrun, hend, Or.inr ⟨T.heap.size, rfl, cls, ce, locs, hx U hWs.alike f1 (fun q hq => f2 q hq (fun z hz => nomatch hz)), hce, hO.vm, hcl, hWs, hall, hf⟩⟩
  refine st1 _ ?_
  show Steps p.tables e below (T1.setTop { method := m, pc := pc + 3, locals := ls, stack := .ref T.heap.size :: rest, locked := none }) _
  jvm_step X₁.here [X₁.here.top, hexec, d3', Value.category]
  exact X₁.ldcStringW hexec (own := own) (text := text) (index := is) (a := sa) hown' hstr'.1 hstr'.2
    (g := { method := m, pc := pc + 4, locals := ls, stack := .ref T.heap.size :: .ref T.heap.size :: rest, locked := none }) rfl d4' _ hsteps
end Ends
section Bodies
variable {l : Launch}
theorem vx_ofW {y : MethodName} {ws ws' : List Cond} {rm : Room} {Pc : Array Value → State → Prop} {Qc : Array Value → State → Outcome → State → Prop} {XC : String → State → State → Prop} {mc ms : Nat} {free : Addr → Prop} {cc : ByteArray} {maxL : Nat} {ret : Option FieldType}
    (hy : plainName y.cls = true) (hw : ws = Cond.code y cc maxL ret :: ws')
    (body : ∀ p e s m args below meth c s₁, BodyLoose p l y (headSpec ws rm) cc maxL ret e s m args below meth c s₁ → c.maxLocals = maxL → (∀ x ∈ c.exceptionTable.toList, False) → Pc args s →
      W p l e (headSpec ws rm).room s m args below meth c s.heap [] 0 0 (vx_MQ below Qc XC args s mc ms free) (entryFrame m args maxL)) : vx_Met l y ws rm Pc Qc XC mc ms free := by
  refine MetFree.of_bodyS (code := cc) (maxLocals := maxL) (ret := ret) hy ?_ ?_
  · intro args s m h hn
    obtain ⟨meth, c, h1, h2, h3, h4, h5, h6, -, -⟩ := Cond.code_spec hn (atoms_spec (ws := ws) h _ (by rw [hw]; exact List.mem_cons_self))
    exact ⟨meth, c, h1, h2, h3, h4, h5, h6⟩
  · intro p e s m args below meth c s₁ B hml hP _
    have hh0 : s₁.heap = s.heap := by rw [B.state]; rfl
    have ht : ∀ x ∈ c.exceptionTable.toList, False := by
      obtain ⟨meth9, c9, h1, h2, -, -, -, -, h7, -⟩ := Cond.code_spec B.named (atoms_spec (ws := ws) B.pre _ (by rw [hw]; exact List.mem_cons_self))
      cases Option.some.inj (h1.symm.trans B.method)
      cases Option.some.inj (h2.symm.trans (Stand.of_body B).code)
      intro x hx
      rw [Array.isEmpty_iff.mp h7] at hx
      cases hx
    obtain ⟨t, a1, o, b1, b2, b3⟩ := body p e s m args below meth c s₁ B hml ht hP s₁ hh0 (Stand.of_body B)
    exact ⟨t, o, a1, b1, b2, b3⟩
/-- the table of a body with handlers -/
theorem vx_table {p : Program} {x y : MethodName} {S : Spec} {cc bytes : ByteArray} {maxL maxL' : Nat} {ret ret' : Option FieldType} {e : Env} {s s₁ : State} {m : MethodId} {args : Array Value} {below : List Frame} {meth : Method} {c : Code} {hh : List (Nat × Nat × Nat × Nat)}
    (B : BodyLoose p l y S cc maxL ret e s m args below meth c s₁) (h : (Cond.codeWith y bytes maxL' ret' hh).before args s = true) : c.exceptionTable.toList = tableOf hh := by
  obtain ⟨m9, meth9, c9, hn9, h1, h2, -, -, h6, -⟩ := Cond.codeWith_spec h
  cases Option.some.inj (hn9.symm.trans B.named)
  cases Option.some.inj (h1.symm.trans B.method)
  cases Option.some.inj (h2.symm.trans (Stand.of_body B).code)
  rw [← h6, table_eq]
end Bodies
end VXA
/-! ===== END ===== -/
/-! ===== BEGIN a static call of a method with an exception table ===== -/
section VXS
variable {p : Program} {l : Launch} {e : Env} {R : Room} {s : State} {m : MethodId} {args : Array Value} {below : List Frame} {meth : Method} {c : Code} {T : State} {H : Heap} {locs : List Loc} {cells slots : Nat}
abbrev vx_CSW (R : Room) (s : State) (args : Array Value) (own : String) (index : Nat) (y : MethodName) (bytes : ByteArray) (maxL : Nat) (ret : Option FieldType) (hh : List (Nat × Nat × Nat × Nat)) (ws : List Cond) (rm : Room) (mc ms n : Nat) : Prop :=
  (rm.cells = mc ∧ rm.slots = ms ∧ rm.frames + 1 ≤ R.frames ∧ 8 + (maxL + 11) + rm.locals ≤ R.locals ∧ (∀ w ∈ ws, ∀ (a' : Array Value) (U : State), s.WarmedH U.vm → w.before a' U = true) ∧ Cond.codeWith y bytes maxL ret hh ∈ ws) ∧
  (Cond.codeWith y bytes maxL ret hh).before args s = true ∧ (Cond.initialized y.cls).before args s = true ∧ (y.cls ≠ "java/lang/invoke/MethodHandle" ∧ y.cls ≠ "java/lang/invoke/VarHandle") ∧
  (∀ sig, parseMethodDescriptor y.desc = some sig → n = sig.parameters.length) ∧ (Cond.methodLink own index y).before args s = true ∧ (Cond.static y).before args s = true
theorem vx_cwSW {own : String} {index maxL mc ms : Nat} {y : MethodName} {bytes : ByteArray} {ret : Option FieldType} {hh : List (Nat × Nat × Nat × Nat)} {Ts ws ws' : List Cond} {rm : Room} (n : Nat) (ht : ∀ w ∈ Ts, w.before args s = true) (hT : GoodIn Ts (va_wsS own index y ws)) (hw : ws = Cond.codeWith y bytes maxL ret hh :: ws') (hrc : rm.cells = mc) (hrs : rm.slots = ms)
    (hd : y.cls ≠ "java/lang/invoke/MethodHandle" ∧ y.cls ≠ "java/lang/invoke/VarHandle" ∧ (parseMethodDescriptor y.desc).map (fun d => d.parameters.length) = some n) (hR : rm.frames + 1 ≤ R.frames ∧ 8 + (maxL + 11) + rm.locals ≤ R.locals) :
    vx_CSW R s args own index y bytes maxL ret hh ws rm mc ms n := by
  have ok : ∀ w ∈ va_wsS own index y ws, w.before args s = true := fun w h => ht w (hT w h).1
  have hG : GoodIn Ts ws := fun w h => hT w (by unfold va_wsS; exact List.mem_append_right _ h)
  have hc : Cond.codeWith y bytes maxL ret hh ∈ ws := by rw [hw]; exact List.mem_cons_self
  refine ⟨⟨hrc, hrs, hR.1, hR.2, pay_in ht hG, hc⟩, ht _ (hG _ hc).1, ok _ (by simp [va_wsS]), ⟨hd.1, hd.2.1⟩, fun sig h => ?_, ok _ (by simp [va_wsS]), ok _ (by simp [va_wsS])⟩
  have h2 := hd.2.2
  rw [h] at h2
  exact (Option.some.inj h2).symm
theorem vx_callSW (X : Stand p l e R s m args below meth c T locs cells slots) (hexec : p.tables.exec = Jvm.exec) {own : String} {index : Nat} {y : MethodName} {bytes : ByteArray} {maxL : Nat} {ret : Option FieldType} {hh : List (Nat × Nat × Nat × Nat)}
    (hown : s.vm.findClass own = some m.cls) (hlink : (Cond.methodLink own index y).before args s = true) (hstat : (Cond.static y).before args s = true) (hinit : (Cond.initialized y.cls).before args s = true)
    (hcode : (Cond.codeWith y bytes maxL ret hh).before args s = true) (hy : y.cls ≠ "java/lang/invoke/MethodHandle" ∧ y.cls ≠ "java/lang/invoke/VarHandle")
    {W9 : Nat} {Pre : Pt → Array Value → Prop} {Post : Pt → Array Value → Option Value → Pt → Prop} (hK : Back l R p e below s args y 3 W9 Pre Post)
    {g : JFrame} (hg : g.method = m) (hsize : g.locals.size = c.maxLocals) {argsL rest : List Value} (hlen : ∀ sig, parseMethodDescriptor y.desc = some sig → argsL.length = sig.parameters.length)
    (hstack : g.stack = argsL.reverse ++ rest) (hW : 2 * g.monitorRoom + (rest.map fun v => v.category).sum ≤ W9) (hdg : decode c.code g.pc = .ok (.invokestatic index, 3))
    (hpre : ∀ vm₁, s.WarmedH vm₁ → Pre ⟨T.setVm vm₁, locs, cells, slots⟩ argsL.toArray) :
    ∃ (v : Option Value) (vm₁ : Vm) (B : Pt), s.WarmedH vm₁ ∧ Stand p l e R s m args below meth c B.U B.locs B.cells B.slots ∧ Post ⟨T.setVm vm₁, locs, cells, slots⟩ argsL.toArray v B ∧
      ∀ target, Steps p.tables e below (B.U.setTop { g with pc := g.pc + 3, stack := v.toList ++ rest }) target → Steps p.tables e below (T.setTop g) target := by
  obtain ⟨mk, methM, cM, hnamed, hmethM, -, -, -, -, -, -, hsigM⟩ := Cond.codeWith_spec hcode
  have hstatic : methM.isStatic = true := Cond.static_spec hnamed hmethM hstat
  obtain ⟨kP, hkP, -⟩ := className_of_methodNamed hnamed
  have hinitP : kP.init = .initialized := Cond.initialized_spec (findClass_of_methodNamed hnamed) hkP hinit
  obtain ⟨vm₁, X₁, hstep₁⟩ := X.invokestatic hexec hown hlink hnamed hmethM hstatic hkP hinitP hy (g := g) hg (argsL := argsL) (rest := rest) (hlen _ hsigM) hstack hdg
  obtain ⟨v, B, X', hpost, hsteps⟩ := hK m meth c ⟨T.setVm vm₁, locs, cells, slots⟩ { g with stack := rest } (.invokestatic index) mk argsL.toArray X₁ hg hsize hdg hW (X₁.named hnamed) (hpre vm₁ X₁.warmed)
  exact ⟨v, vm₁, B, X₁.warmed, X', hpost, fun target h => hstep₁ _ fun acts => by rw [doInvoke_state]; exact hsteps.trans h⟩
theorem vx_runSW {y : MethodName} {bytes cc : ByteArray} {maxL nL mc ms n index : Nat} {ret : Option FieldType} {hh : List (Nat × Nat × Nat × Nat)} {ws : List Cond} {rm : Room} {Pc : Array Value → State → Prop} {Qc : Array Value → State → Outcome → State → Prop} {free : Addr → Prop} {Ts : List Cond} {own : String} {As rest : List Value} {g : JFrame}
    (S : CallFix p m c cc nL s args Ts own) (hM : Met l y ws rm Pc Qc mc ms free) (cw : vx_CSW R s args own index y bytes maxL ret hh ws rm mc ms n) (hp : PreS s H Pc As)
    (hg : g.method = m) (hn : As.length = n) (hsize : g.locals.size = nL) (hstack : g.stack = As.reverse ++ rest) (hW : 2 * g.monitorRoom + (rest.map fun v => v.category).sum ≤ 8) (hdg : decode cc g.pc = .ok (.invokestatic index, 3)) (hf : cells + mc ≤ R.cells ∧ slots + ms ≤ R.slots) :
    va_Run p l e R s m args below meth c H locs cells slots mc ms g rest (Qc As.toArray) (free) := by
  obtain ⟨⟨hrc, hrs, hfr, hlo, hws, hcw⟩, hcode, hini, hy, hlen, hl, hstt⟩ := cw
  have hK : Back l R p e below s args y 3 8 (PreOf R mc ms Pc) (PostOf Qc mc ms free) := va_backW (hh := hh) (bytes := bytes) (maxL := maxL) (ret := ret) hM hp.1 hrc hrs hfr hlo hws hcw (fun a' U hW => word_at hW (Or.inl (by first | rfl | simp [Cond.onTables, Cond.keeps, Cond.steady])) hini)
  obtain ⟨hx, hb, hml, ho, -⟩ := S
  intro T hT X
  obtain ⟨v, vm₁, ⟨U', l2, c2, s2⟩, hW₁, X', ⟨g', mk, t, L, e1, e2, hq, h1, hL, h2, h3⟩, st⟩ := vx_callSW X hx (hh := hh) (bytes := bytes) (maxL := maxL) (ret := ret) ho hl hstt hini hcode hy hK hg (hsize.trans hml.symm) (argsL := As) (rest := rest) (fun sig h => hn.trans (hlen sig h)) hstack hW (by rw [hb]; exact hdg)
    (fun vm₁ hW₁ => ⟨hf.1, hf.2, hp.2 (T.setVm vm₁) hT hW₁⟩)
  dsimp only [Pt.U, Pt.locs, Pt.cells, Pt.slots] at X' e1 e2 h1 h2 h3 st
  subst h1; subst h2; subst h3
  exact ⟨v, (T.setVm vm₁).calling g' mk As.toArray, t, U', L, hT, X', hL, e1, e2, hq, st⟩
theorem vx_lt {D : va_G} {cl : List vw_C} {ws : va_W} {H1 : Heap} (h : va_P D cl ws H1) {k : Nat} {q : Nat × va_E} (hk : ws[k]? = some q) : q.1 < H1.size := (h k q hk).lt
end VXS
/-! ===== END ===== -/
/-! ===== BEGIN methods with a table of their own: called by a name, returning or throwing ===== -/
section VXH
/-! vx_backW, vx_callVX, vx_callSX, vx_callVW, vx_runVW, vx_runVX, vx_runSX, vx_ofWH follow the same proofs as their sisters above (Free/Laws.lean, Shelf42/LK1.lean); vx_outP calls Shelf42/NT130.lean (outThrough). -/
section
variable {l : Launch} {R : Room} {p : Program} {e : Env} {below : List Frame} {s : State} {sargs : Array Value} {y : MethodName} {len W9 : Nat}
theorem vx_backW {ws : List Cond} {rm : Room} {Pc : Array Value → State → Prop} {Qc : Array Value → State → Outcome → State → Prop} {XC : String → State → State → Prop} {mc ms : Nat} {free : Addr → Prop} {bytes : ByteArray} {maxL : Nat} {ret : Option FieldType} {hh : List (Nat × Nat × Nat × Nat)}
    (hM : vx_Met l y ws rm Pc Qc XC mc ms free) (hblind : FrameBlind Pc) (hrc : rm.cells = mc) (hrs : rm.slots = ms)
    (hframes : rm.frames + 1 ≤ R.frames) (hlocals : W9 + (maxL + 11) + rm.locals ≤ R.locals)
    (hws : ∀ w ∈ ws, ∀ a' U, s.WarmedH U.vm → w.before a' U = true) (hcode : Cond.codeWith y bytes maxL ret hh ∈ ws) (hinit : ∀ a' U, s.WarmedH U.vm → (Cond.initialized y.cls).before a' U = true) :
    vx_Back l R p e below s sargs y len W9 (PreOf R mc ms Pc) (PostOf Qc mc ms free) (vx_Post XC mc ms free) := by
  intro m meth c A g ig mk a X hg hsize hdg hW hn hp
  have h1 : (headSpec ws rm).pre.before a A.U = true := atoms_intro fun w hw => hws w hw _ _ X.warmed
  have h2 : (Cond.codeWith y bytes maxL ret hh).before a A.U = true := hws _ hcode _ _ X.warmed
  have h3 : (Cond.initialized y.cls).before a A.U = true := hinit _ _ X.warmed
  have h4 : A.cells + (headSpec ws rm).room.cells ≤ R.cells := by rw [show (headSpec ws rm).room.cells = mc from hrc]; exact hp.1
  have h5 : A.slots + (headSpec ws rm).room.slots ≤ R.slots := by rw [show (headSpec ws rm).room.slots = ms from hrs]; exact hp.2.1
  have hPc : Pc a (A.U.calling g mk a) := hblind _ _ _ _ hp.2.2
  obtain ⟨U, Ls, c0, s0⟩ := A
  dsimp only [Pt.U, Pt.locs, Pt.cells, Pt.slots] at h1 h2 h3 h4 h5 X hn hPc ⊢
  obtain ⟨m9, methY, cY, hn9, hmY, hcY, -, hlY, -⟩ := Cond.codeWith_spec h2
  cases Option.some.inj (hn9.symm.trans hn)
  obtain ⟨kY, hkY, -⟩ := className_of_methodNamed hn
  have hinitY : kY.init = .initialized := Cond.initialized_spec (findClass_of_methodNamed hn) hkY h3
  have h : At U g.method c below := by rw [hg]; exact X.here
  have hlocals9 : W9 + (maxL + 11) + (headSpec ws rm).room.locals ≤ R.locals := hlocals
  have happ : (headSpec ws rm).appliesLoose y e.platform (U.calling g mk a) = true :=
    Spec.appliesLoose_calling (g := g) h hdg hn hkY hinitY
      (X.room_calling (g := g) (R' := (headSpec ws rm).room) hsize hmY hcY hframes (by rw [hlY]; omega) h4 h5) h1
  obtain ⟨mid, hmid⟩ := h.above
  have hfr : (U.setTop g).frames = (.java g :: mid) ++ below := by rw [State.frames_setTop' g h.top, hmid]; rfl
  obtain ⟨o, s₂, hsteps, -, hend, hq⟩ := Steps.callFree hM p X.admits X.cas X.clock (acts := []) hfr happ hPc trivial
  have hq' : vx_Q Qc XC mc ms free a (U.calling g mk a) o s₂ := hq
  rw [State.frames_setTop' g h.top] at hend
  obtain ⟨g₀, hg0⟩ := Option.isSome_iff_exists.mp h.top
  obtain ⟨r, hr⟩ := State.topJava?_eq_some.mp hg0
  have hr' : (({ U with heap := s₂.heap, slotsUsed := s₂.slotsUsed } : State).setVm s₂.vm).frames = .java g₀ :: r := hr
  rcases hq' with ⟨hqc, L, hfe, hL⟩ | ⟨q, rfl, E, ce, L, hx, hce, hcv, hcl, hW₂, hsm, hL⟩
  · obtain ⟨⟨v, rfl⟩, hW₂, e2, q2, q3, q4, q5, q6⟩ := id hfe
    have e3 : s₂ = ({ (U.calling g mk a).setFrames s₂.frames with heap := s₂.heap, slotsUsed := s₂.slotsUsed } : State).setVm s₂.vm := by
      have : s₂ = ({ s₂ with vm := (U.calling g mk a).vm } : State).setVm s₂.vm := rfl
      rw [e2] at this
      exact this
    obtain ⟨c₂, i₂, len₂, hc₂, hd₂, hf₂⟩ := hend
    have hW' : U.WarmedH s₂.vm := hW₂
    have hcc : c₂ = c := by
      have h1 : s₂.code? g.method = U.code? g.method := by
        rw [State.code?_eq, State.code?_eq, hW'.alike.method?]
      exact Option.some.inj (hc₂.symm.trans (h1.trans h.code))
    subst hcc
    have hlen : len₂ = len := by rw [hdg] at hd₂; cases hd₂; rfl
    subst hlen
    have hs₂ : s₂ = (({ U with heap := s₂.heap, slotsUsed := s₂.slotsUsed } : State).setVm s₂.vm).setTop { g with pc := g.pc + len₂, stack := v.toList ++ g.stack } := by
      refine e3.trans ?_
      rw [hf₂, State.calling_eq h.top, State.setFrames_setFrames, State.setTop_of_frames _ hr', hr]
      rfl
    have hsame : U.sameButNew ({ U with heap := s₂.heap, slotsUsed := s₂.slotsUsed } : State) L mc ms := by
      refine ⟨?_, q2, q3, q4, q5, q6⟩
      obtain ⟨t, ht, -⟩ := State.frames_cons hr
      show ({ U with heap := s₂.heap, slotsUsed := s₂.slotsUsed } : State) = { U.setFrames U.frames with heap := s₂.heap, slotsUsed := s₂.slotsUsed }
      rw [State.setFrames_self ht]
    subst hg
    refine Or.inl ⟨v, ⟨(({ U with heap := s₂.heap, slotsUsed := s₂.slotsUsed } : State).setVm s₂.vm), Ls ++ L, c0 + mc, s0 + ms⟩,
      ⟨X.admits, X.cas, X.clock, X.frames, X.room, X.hears, X.method, X.code, (X.here.setHeapUsed s₂.heap s₂.slotsUsed).setVm hW'.alike, X.tail, State.WarmedH.trans X.warmed hW', X.limits, X.bytes, X.same.trans (hsame.setVm s.vm)⟩,
      ⟨g, mk, s₂, L, rfl, rfl, hqc, rfl, hL, rfl, rfl⟩, ?_⟩
    show Steps p.tables e below _ ((({ U with heap := s₂.heap, slotsUsed := s₂.slotsUsed } : State).setVm s₂.vm).setTop { g with pc := g.pc + len₂, stack := v.toList ++ g.stack })
    rw [← hs₂]
    exact hsteps
  · obtain ⟨e2, q2, q3, q4, q5, q6⟩ := id hsm
    have e3 : s₂ = ({ (U.calling g mk a).setFrames s₂.frames with heap := s₂.heap, slotsUsed := s₂.slotsUsed } : State).setVm s₂.vm := by
      have : s₂ = ({ s₂ with vm := (U.calling g mk a).vm } : State).setVm s₂.vm := rfl
      rw [e2] at this
      exact this
    have hf₂ : s₂.frames = .throwing q :: .java g :: U.frames.tail := hend
    have hW' : U.WarmedH s₂.vm := hW₂
    have hs₂ : s₂ = ((({ U with heap := s₂.heap, slotsUsed := s₂.slotsUsed } : State).setVm s₂.vm).setTop g).pushFrame (.throwing q) := by
      refine e3.trans ?_
      rw [hf₂, State.calling_eq h.top, State.setFrames_setFrames, State.pushFrame, State.frames_setTop _ hr', State.setTop_of_frames _ hr', State.setFrames_setFrames, hr]
      rfl
    have hsame : U.sameButNew ({ U with heap := s₂.heap, slotsUsed := s₂.slotsUsed } : State) L mc ms := by
      refine ⟨?_, q2, q3, q4, q5, q6⟩
      obtain ⟨t, ht, -⟩ := State.frames_cons hr
      show ({ U with heap := s₂.heap, slotsUsed := s₂.slotsUsed } : State) = { U.setFrames U.frames with heap := s₂.heap, slotsUsed := s₂.slotsUsed }
      rw [State.setFrames_self ht]
    subst hg
    refine Or.inr ⟨q, ⟨(({ U with heap := s₂.heap, slotsUsed := s₂.slotsUsed } : State).setVm s₂.vm), Ls ++ L, c0 + mc, s0 + ms⟩,
      ⟨X.admits, X.cas, X.clock, X.frames, X.room, X.hears, X.method, X.code, (X.here.setHeapUsed s₂.heap s₂.slotsUsed).setVm hW'.alike, X.tail, State.WarmedH.trans X.warmed hW', X.limits, X.bytes, X.same.trans (hsame.setVm s.vm)⟩,
      ⟨g, mk, s₂, L, E, ce, rfl, rfl, hx, hce, hcv, hcl, rfl, hL, rfl, rfl⟩, ?_⟩
    show Steps p.tables e below _ (((({ U with heap := s₂.heap, slotsUsed := s₂.slotsUsed } : State).setVm s₂.vm).setTop g).pushFrame (.throwing q))
    rw [← hs₂]
    exact hsteps
end
variable {p : Program} {l : Launch} {e : Env} {R : Room} {s : State} {m : MethodId} {args : Array Value} {below : List Frame} {meth : Method} {c : Code} {T : State} {H : Heap} {locs : List Loc} {cells slots : Nat}
theorem vx_callVX (X : Stand p l e R s m args below meth c T locs cells slots) (hexec : p.tables.exec = Jvm.exec) {own C : String} {index : Nat} {y : MethodName} {bytes : ByteArray} {maxL : Nat} {ret : Option FieldType} {hh : List (Nat × Nat × Nat × Nat)}
    (hown : s.vm.findClass own = some m.cls) (hlink : (Cond.methodLink own index y).before args s = true) (hinst : (Cond.instanceMethod y).before args s = true) (hsel : (Cond.selects C y y).before args s = true)
    (hcode : (Cond.codeWith y bytes maxL ret hh).before args s = true) (hy : y.cls ≠ "java/lang/invoke/MethodHandle" ∧ y.cls ≠ "java/lang/invoke/VarHandle")
    {W9 : Nat} {Pre : Pt → Array Value → Prop} {Post : Pt → Array Value → Option Value → Pt → Prop} {PostX : Pt → Array Value → Addr → Pt → Prop} (hK : vx_Back l R p e below s args y 3 W9 Pre Post PostX)
    {b : Addr} {cellB : Cell} (hcell : T.heap[b]? = some cellB) (hobj : cellB.vm.isStatics = false) (hcls : s.vm.findClass C = some cellB.cls)
    {g : JFrame} (hg : g.method = m) (hsize : g.locals.size = c.maxLocals) {argsL rest : List Value} (hlen : ∀ sig, parseMethodDescriptor y.desc = some sig → argsL.length = sig.parameters.length)
    (hstack : g.stack = argsL.reverse ++ .ref b :: rest) (hW : 2 * g.monitorRoom + (rest.map fun v => v.category).sum ≤ W9) (hdg : decode c.code g.pc = .ok (.invokevirtual index, 3))
    (hpre : ∀ vm₁, s.WarmedH vm₁ → Pre ⟨T.setVm vm₁, locs, cells, slots⟩ (Value.ref b :: argsL).toArray) :
    (∃ (v : Option Value) (vm₁ : Vm) (B : Pt), s.WarmedH vm₁ ∧ Stand p l e R s m args below meth c B.U B.locs B.cells B.slots ∧ Post ⟨T.setVm vm₁, locs, cells, slots⟩ (Value.ref b :: argsL).toArray v B ∧
      ∀ target, Steps p.tables e below (B.U.setTop { g with pc := g.pc + 3, stack := v.toList ++ rest }) target → Steps p.tables e below (T.setTop g) target) ∨
    (∃ (q : Addr) (vm₁ : Vm) (B : Pt), s.WarmedH vm₁ ∧ Stand p l e R s m args below meth c B.U B.locs B.cells B.slots ∧ PostX ⟨T.setVm vm₁, locs, cells, slots⟩ (Value.ref b :: argsL).toArray q B ∧
      Steps p.tables e below (T.setTop g) ((B.U.setTop { g with stack := rest }).pushFrame (.throwing q))) := by
  obtain ⟨mk, methM, hnamed, hmethM, hstM, habM⟩ := Cond.instanceMethod_spec hinst
  obtain ⟨m8, methM', cM, hn8, hmethM', -, -, -, -, -, -, hsigM⟩ := Cond.codeWith_spec hcode
  cases Option.some.inj (hn8.symm.trans hnamed)
  cases hmethM.symm.trans hmethM'
  obtain ⟨c2, r2, m2, q1, q2, q3, q4, kP, hkP, hkPi⟩ := Cond.selects_spec hsel
  cases hcls.symm.trans q1
  cases (State.methodFound?_of_named hnamed hy).symm.trans q2
  cases hnamed.symm.trans q3
  have hselP : selectMethod e.platform s.vm cellB.cls mk = .method mk := by rw [Launch.admits_selectMethod X.admits]; exact q4
  obtain ⟨vm₁, X₁, hstep₁⟩ := X.invokevirtual hexec hown hlink hnamed hmethM hstM hkP hkPi hy (a := b) (cell := cellB) hcell
    (fun z h => by rw [h] at hobj; cases hobj) hselP hmethM habM hkP hkPi (g := g) hg (argsL := argsL) (rest := rest) (hlen _ hsigM) hstack hdg
  rcases hK m meth c ⟨T.setVm vm₁, locs, cells, slots⟩ { g with stack := rest } (.invokevirtual index) mk (Value.ref b :: argsL).toArray X₁ hg hsize hdg hW (X₁.named hnamed) (hpre vm₁ X₁.warmed) with ⟨v, B, X', hpost, hsteps⟩ | ⟨q, B, X', hpost, hsteps⟩
  · exact Or.inl ⟨v, vm₁, B, X₁.warmed, X', hpost, fun target h => hstep₁ _ fun acts => by rw [doInvoke_state]; exact hsteps.trans h⟩
  · exact Or.inr ⟨q, vm₁, B, X₁.warmed, X', hpost, hstep₁ _ fun acts => by rw [doInvoke_state]; exact hsteps⟩
theorem vx_callSX (X : Stand p l e R s m args below meth c T locs cells slots) (hexec : p.tables.exec = Jvm.exec) {own : String} {index : Nat} {y : MethodName} {bytes : ByteArray} {maxL : Nat} {ret : Option FieldType} {hh : List (Nat × Nat × Nat × Nat)}
    (hown : s.vm.findClass own = some m.cls) (hlink : (Cond.methodLink own index y).before args s = true) (hstat : (Cond.static y).before args s = true) (hinit : (Cond.initialized y.cls).before args s = true)
    (hcode : (Cond.codeWith y bytes maxL ret hh).before args s = true) (hy : y.cls ≠ "java/lang/invoke/MethodHandle" ∧ y.cls ≠ "java/lang/invoke/VarHandle")
    {W9 : Nat} {Pre : Pt → Array Value → Prop} {Post : Pt → Array Value → Option Value → Pt → Prop} {PostX : Pt → Array Value → Addr → Pt → Prop} (hK : vx_Back l R p e below s args y 3 W9 Pre Post PostX)
    {g : JFrame} (hg : g.method = m) (hsize : g.locals.size = c.maxLocals) {argsL rest : List Value} (hlen : ∀ sig, parseMethodDescriptor y.desc = some sig → argsL.length = sig.parameters.length)
    (hstack : g.stack = argsL.reverse ++ rest) (hW : 2 * g.monitorRoom + (rest.map fun v => v.category).sum ≤ W9) (hdg : decode c.code g.pc = .ok (.invokestatic index, 3))
    (hpre : ∀ vm₁, s.WarmedH vm₁ → Pre ⟨T.setVm vm₁, locs, cells, slots⟩ argsL.toArray) :
    (∃ (v : Option Value) (vm₁ : Vm) (B : Pt), s.WarmedH vm₁ ∧ Stand p l e R s m args below meth c B.U B.locs B.cells B.slots ∧ Post ⟨T.setVm vm₁, locs, cells, slots⟩ argsL.toArray v B ∧
      ∀ target, Steps p.tables e below (B.U.setTop { g with pc := g.pc + 3, stack := v.toList ++ rest }) target → Steps p.tables e below (T.setTop g) target) ∨
    (∃ (q : Addr) (vm₁ : Vm) (B : Pt), s.WarmedH vm₁ ∧ Stand p l e R s m args below meth c B.U B.locs B.cells B.slots ∧ PostX ⟨T.setVm vm₁, locs, cells, slots⟩ argsL.toArray q B ∧
      Steps p.tables e below (T.setTop g) ((B.U.setTop { g with stack := rest }).pushFrame (.throwing q))) := by
  obtain ⟨mk, methM, cM, hnamed, hmethM, -, -, -, -, -, -, hsigM⟩ := Cond.codeWith_spec hcode
  have hstatic : methM.isStatic = true := Cond.static_spec hnamed hmethM hstat
  obtain ⟨kP, hkP, -⟩ := className_of_methodNamed hnamed
  have hinitP : kP.init = .initialized := Cond.initialized_spec (findClass_of_methodNamed hnamed) hkP hinit
  obtain ⟨vm₁, X₁, hstep₁⟩ := X.invokestatic hexec hown hlink hnamed hmethM hstatic hkP hinitP hy (g := g) hg (argsL := argsL) (rest := rest) (hlen _ hsigM) hstack hdg
  rcases hK m meth c ⟨T.setVm vm₁, locs, cells, slots⟩ { g with stack := rest } (.invokestatic index) mk argsL.toArray X₁ hg hsize hdg hW (X₁.named hnamed) (hpre vm₁ X₁.warmed) with ⟨v, B, X', hpost, hsteps⟩ | ⟨q, B, X', hpost, hsteps⟩
  · exact Or.inl ⟨v, vm₁, B, X₁.warmed, X', hpost, fun target h => hstep₁ _ fun acts => by rw [doInvoke_state]; exact hsteps.trans h⟩
  · exact Or.inr ⟨q, vm₁, B, X₁.warmed, X', hpost, hstep₁ _ fun acts => by rw [doInvoke_state]; exact hsteps⟩
theorem vx_callVW (X : Stand p l e R s m args below meth c T locs cells slots) (hexec : p.tables.exec = Jvm.exec) {own C : String} {index : Nat} {y : MethodName} {bytes : ByteArray} {maxL : Nat} {ret : Option FieldType} {hh : List (Nat × Nat × Nat × Nat)}
    (hown : s.vm.findClass own = some m.cls) (hlink : (Cond.methodLink own index y).before args s = true) (hinst : (Cond.instanceMethod y).before args s = true) (hsel : (Cond.selects C y y).before args s = true)
    (hcode : (Cond.codeWith y bytes maxL ret hh).before args s = true) (hy : y.cls ≠ "java/lang/invoke/MethodHandle" ∧ y.cls ≠ "java/lang/invoke/VarHandle")
    {W9 : Nat} {Pre : Pt → Array Value → Prop} {Post : Pt → Array Value → Option Value → Pt → Prop} (hK : Back l R p e below s args y 3 W9 Pre Post)
    {b : Addr} {cellB : Cell} (hcell : T.heap[b]? = some cellB) (hobj : cellB.vm.isStatics = false) (hcls : s.vm.findClass C = some cellB.cls)
    {g : JFrame} (hg : g.method = m) (hsize : g.locals.size = c.maxLocals) {argsL rest : List Value} (hlen : ∀ sig, parseMethodDescriptor y.desc = some sig → argsL.length = sig.parameters.length)
    (hstack : g.stack = argsL.reverse ++ .ref b :: rest) (hW : 2 * g.monitorRoom + (rest.map fun v => v.category).sum ≤ W9) (hdg : decode c.code g.pc = .ok (.invokevirtual index, 3))
    (hpre : ∀ vm₁, s.WarmedH vm₁ → Pre ⟨T.setVm vm₁, locs, cells, slots⟩ (Value.ref b :: argsL).toArray) :
    ∃ (v : Option Value) (vm₁ : Vm) (B : Pt), s.WarmedH vm₁ ∧ Stand p l e R s m args below meth c B.U B.locs B.cells B.slots ∧ Post ⟨T.setVm vm₁, locs, cells, slots⟩ (Value.ref b :: argsL).toArray v B ∧
      ∀ target, Steps p.tables e below (B.U.setTop { g with pc := g.pc + 3, stack := v.toList ++ rest }) target → Steps p.tables e below (T.setTop g) target := by
  obtain ⟨mk, methM, hnamed, hmethM, hstM, habM⟩ := Cond.instanceMethod_spec hinst
  obtain ⟨m8, methM', cM, hn8, hmethM', -, -, -, -, -, -, hsigM⟩ := Cond.codeWith_spec hcode
  cases Option.some.inj (hn8.symm.trans hnamed)
  cases hmethM.symm.trans hmethM'
  obtain ⟨c2, r2, m2, q1, q2, q3, q4, kP, hkP, hkPi⟩ := Cond.selects_spec hsel
  cases hcls.symm.trans q1
  cases (State.methodFound?_of_named hnamed hy).symm.trans q2
  cases hnamed.symm.trans q3
  have hselP : selectMethod e.platform s.vm cellB.cls mk = .method mk := by rw [Launch.admits_selectMethod X.admits]; exact q4
  obtain ⟨vm₁, X₁, hstep₁⟩ := X.invokevirtual hexec hown hlink hnamed hmethM hstM hkP hkPi hy (a := b) (cell := cellB) hcell
    (fun z h => by rw [h] at hobj; cases hobj) hselP hmethM habM hkP hkPi (g := g) hg (argsL := argsL) (rest := rest) (hlen _ hsigM) hstack hdg
  obtain ⟨v, B, X', hpost, hsteps⟩ := hK m meth c ⟨T.setVm vm₁, locs, cells, slots⟩ { g with stack := rest } (.invokevirtual index) mk (Value.ref b :: argsL).toArray X₁ hg hsize hdg hW (X₁.named hnamed) (hpre vm₁ X₁.warmed)
  exact ⟨v, vm₁, B, X₁.warmed, X', hpost, fun target h => hstep₁ _ fun acts => by rw [doInvoke_state]; exact hsteps.trans h⟩
abbrev vx_CVW (R : Room) (s : State) (args : Array Value) (own C : String) (index : Nat) (y : MethodName) (bytes : ByteArray) (maxL : Nat) (ret : Option FieldType) (hh : List (Nat × Nat × Nat × Nat)) (ws : List Cond) (rm : Room) (mc ms n : Nat) : Prop :=
  (rm.cells = mc ∧ rm.slots = ms ∧ rm.frames + 1 ≤ R.frames ∧ 8 + (maxL + 11) + rm.locals ≤ R.locals ∧ (∀ w ∈ ws, ∀ (a' : Array Value) (U : State), s.WarmedH U.vm → w.before a' U = true) ∧ Cond.codeWith y bytes maxL ret hh ∈ ws) ∧
  (Cond.codeWith y bytes maxL ret hh).before args s = true ∧ (Cond.initialized y.cls).before args s = true ∧ (y.cls ≠ "java/lang/invoke/MethodHandle" ∧ y.cls ≠ "java/lang/invoke/VarHandle") ∧
  (∀ sig, parseMethodDescriptor y.desc = some sig → n = sig.parameters.length) ∧ (Cond.methodLink own index y).before args s = true ∧ (Cond.instanceMethod y).before args s = true ∧ (Cond.selects C y y).before args s = true
theorem vx_cwVW {own C : String} {index maxL mc ms : Nat} {y : MethodName} {bytes : ByteArray} {ret : Option FieldType} {hh : List (Nat × Nat × Nat × Nat)} {Ts ws ws' : List Cond} {rm : Room} (n : Nat) (ht : ∀ w ∈ Ts, w.before args s = true) (hT : GoodIn Ts (wsV own index C y ws)) (hw : ws = Cond.codeWith y bytes maxL ret hh :: ws') (hrc : rm.cells = mc) (hrs : rm.slots = ms)
    (hd : y.cls = C ∧ y.cls ≠ "java/lang/invoke/MethodHandle" ∧ y.cls ≠ "java/lang/invoke/VarHandle" ∧ (parseMethodDescriptor y.desc).map (fun d => d.parameters.length) = some n) (hR : rm.frames + 1 ≤ R.frames ∧ 8 + (maxL + 11) + rm.locals ≤ R.locals) :
    vx_CVW R s args own C index y bytes maxL ret hh ws rm mc ms n := by
  obtain ⟨hC, hd⟩ := hd
  subst hC
  have ok : ∀ w ∈ wsV own index y.cls y ws, w.before args s = true := fun w h => ht w (hT w h).1
  have hG : GoodIn Ts ws := fun w h => hT w (by unfold wsV; exact List.mem_append_right _ h)
  have hc : Cond.codeWith y bytes maxL ret hh ∈ ws := by rw [hw]; exact List.mem_cons_self
  refine ⟨⟨hrc, hrs, hR.1, hR.2, pay_in ht hG, hc⟩, ht _ (hG _ hc).1, ok _ (by simp [wsV]), ⟨hd.1, hd.2.1⟩, fun sig h => ?_, ok _ (by simp [wsV]), ok _ (by simp [wsV]), ok _ (by simp [wsV])⟩
  have h2 := hd.2.2
  rw [h] at h2
  exact (Option.some.inj h2).symm
theorem vx_runVW {y : MethodName} {bytes cc : ByteArray} {maxL nL mc ms n index : Nat} {ret : Option FieldType} {hh : List (Nat × Nat × Nat × Nat)} {ws : List Cond} {rm : Room} {Pc : Array Value → State → Prop} {Qc : Array Value → State → Outcome → State → Prop} {free : Addr → Prop} {Ts : List Cond} {own C : String} {b : Addr} {As rest : List Value} {g : JFrame}
    (S : CallFix p m c cc nL s args Ts own) (hM : Met l y ws rm Pc Qc mc ms free) (cw : vx_CVW R s args own C index y bytes maxL ret hh ws rm mc ms n) (hp : PreV s H C b Pc As)
    (hg : g.method = m) (hn : As.length = n) (hsize : g.locals.size = nL) (hstack : g.stack = As.reverse ++ .ref b :: rest) (hW : 2 * g.monitorRoom + (rest.map fun v => v.category).sum ≤ 8) (hdg : decode cc g.pc = .ok (.invokevirtual index, 3)) (hf : cells + mc ≤ R.cells ∧ slots + ms ≤ R.slots) :
    va_Run p l e R s m args below meth c H locs cells slots mc ms g rest (Qc (Value.ref b :: As).toArray) free := by
  obtain ⟨⟨hrc, hrs, hfr, hlo, hws, hcw⟩, hcode, hini, hy, hlen, hl, hin, hse⟩ := cw
  have hK : Back l R p e below s args y 3 8 (PreOf R mc ms Pc) (PostOf Qc mc ms free) := va_backW (hh := hh) (bytes := bytes) (maxL := maxL) (ret := ret) hM hp.1 hrc hrs hfr hlo hws hcw (fun a' U hW => word_at hW (Or.inl (by first | rfl | simp [Cond.onTables, Cond.keeps, Cond.steady])) hini)
  obtain ⟨hx, hb, hml, ho, -⟩ := S
  obtain ⟨-, ⟨cellB, hcB, hoB, hclB⟩, hPc⟩ := hp
  intro T hT X
  obtain ⟨v, vm₁, ⟨U', l2, c2, s2⟩, hW₁, X', ⟨g', mk, t, L, e1, e2, hq, h1, hL, h2, h3⟩, st⟩ := vx_callVW X hx (C := C) (hh := hh) (bytes := bytes) (maxL := maxL) (ret := ret) ho hl hin hse hcode hy hK (by rw [hT]; exact hcB) hoB hclB hg (hsize.trans hml.symm) (argsL := As) (rest := rest) (fun sig h => hn.trans (hlen sig h)) hstack hW (by rw [hb]; exact hdg)
    (fun vm₁ hW₁ => ⟨hf.1, hf.2, hPc (T.setVm vm₁) hT hW₁⟩)
  dsimp only [Pt.U, Pt.locs, Pt.cells, Pt.slots] at X' e1 e2 h1 h2 h3 st
  subst h1; subst h2; subst h3
  exact ⟨v, (T.setVm vm₁).calling g' mk (Value.ref b :: As).toArray, t, U', L, hT, X', hL, e1, e2, hq, st⟩
section
variable {y : MethodName} {bytes cc : ByteArray} {maxL nL mc ms n index : Nat} {ret : Option FieldType} {ws : List Cond} {rm : Room} {Pc : Array Value → State → Prop} {Qc : Array Value → State → Outcome → State → Prop} {XC : String → State → State → Prop} {free : Addr → Prop} {Ts : List Cond} {own C : String} {b : Addr} {As rest : List Value} {g : JFrame}
theorem vx_runVX {hh : List (Nat × Nat × Nat × Nat)} (S : CallFix p m c cc nL s args Ts own) (hM : vx_Met l y ws rm Pc Qc XC mc ms free) (cw : vx_CVW R s args own C index y bytes maxL ret hh ws rm mc ms n) (hp : PreV s H C b Pc As)
    (hg : g.method = m) (hn : As.length = n) (hsize : g.locals.size = nL) (hstack : g.stack = As.reverse ++ .ref b :: rest) (hW : 2 * g.monitorRoom + (rest.map fun v => v.category).sum ≤ 8) (hdg : decode cc g.pc = .ok (.invokevirtual index, 3)) (hf : cells + mc ≤ R.cells ∧ slots + ms ≤ R.slots) :
    vx_Run p l e R s m args below meth c H locs cells slots mc ms g rest (Qc (Value.ref b :: As).toArray) XC free := by
  obtain ⟨⟨hrc, hrs, hfr, hlo, hws, hcw⟩, hcode, hini, hy, hlen, hl, hin, hse⟩ := cw
  have hK : vx_Back l R p e below s args y 3 8 (PreOf R mc ms Pc) (PostOf Qc mc ms free) (vx_Post XC mc ms free) := vx_backW (hh := hh) (bytes := bytes) (maxL := maxL) (ret := ret) hM hp.1 hrc hrs hfr hlo hws hcw (fun a' U hW => word_at hW (Or.inl (by first | rfl | simp [Cond.onTables, Cond.keeps, Cond.steady])) hini)
  obtain ⟨hx, hb, hml, ho, -⟩ := S
  obtain ⟨-, ⟨cellB, hcB, hoB, hclB⟩, hPc⟩ := hp
  intro T hT X
  rcases vx_callVX X hx (C := C) (hh := hh) (bytes := bytes) (maxL := maxL) (ret := ret) ho hl hin hse hcode hy hK (by rw [hT]; exact hcB) hoB hclB hg (hsize.trans hml.symm) (argsL := As) (rest := rest) (fun sig h => hn.trans (hlen sig h)) hstack hW (by rw [hb]; exact hdg)
    (fun vm₁ hW₁ => ⟨hf.1, hf.2, hPc (T.setVm vm₁) hT hW₁⟩) with ⟨v, vm₁, ⟨U', l2, c2, s2⟩, hW₁, X', ⟨g', mk, t, L, e1, e2, hq, h1, hL, h2, h3⟩, st⟩ | ⟨q, vm₁, ⟨U', l2, c2, s2⟩, hW₁, X', ⟨g', mk, t, L, E, ce, e1, e2, hq, hce, hcv, hcl, h1, hL, h2, h3⟩, st⟩
  · dsimp only [Pt.U, Pt.locs, Pt.cells, Pt.slots] at X' e1 e2 h1 h2 h3 st
    subst h1; subst h2; subst h3
    exact Or.inl ⟨v, (T.setVm vm₁).calling g' mk (Value.ref b :: As).toArray, t, U', L, hT, X', hL, e1, e2, hq, st⟩
  · dsimp only [Pt.U, Pt.locs, Pt.cells, Pt.slots] at X' e1 e2 h1 h2 h3 st hcl
    subst h1; subst h2; subst h3
    exact Or.inr ⟨q, (T.setVm vm₁).calling g' mk (Value.ref b :: As).toArray, t, U', L, E, ce, hT, X', hL, e1, e2, hq, hce, hcv, vx_cls hW₁ hcl, st⟩
theorem vx_runSX {hh : List (Nat × Nat × Nat × Nat)} (S : CallFix p m c cc nL s args Ts own) (hM : vx_Met l y ws rm Pc Qc XC mc ms free) (cw : vx_CSW R s args own index y bytes maxL ret hh ws rm mc ms n) (hp : PreS s H Pc As)
    (hg : g.method = m) (hn : As.length = n) (hsize : g.locals.size = nL) (hstack : g.stack = As.reverse ++ rest) (hW : 2 * g.monitorRoom + (rest.map fun v => v.category).sum ≤ 8) (hdg : decode cc g.pc = .ok (.invokestatic index, 3)) (hf : cells + mc ≤ R.cells ∧ slots + ms ≤ R.slots) :
    vx_Run p l e R s m args below meth c H locs cells slots mc ms g rest (Qc As.toArray) XC free := by
  obtain ⟨⟨hrc, hrs, hfr, hlo, hws, hcw⟩, hcode, hini, hy, hlen, hl, hstt⟩ := cw
  have hK : vx_Back l R p e below s args y 3 8 (PreOf R mc ms Pc) (PostOf Qc mc ms free) (vx_Post XC mc ms free) := vx_backW (hh := hh) (bytes := bytes) (maxL := maxL) (ret := ret) hM hp.1 hrc hrs hfr hlo hws hcw (fun a' U hW => word_at hW (Or.inl (by first | rfl | simp [Cond.onTables, Cond.keeps, Cond.steady])) hini)
  obtain ⟨hx, hb, hml, ho, -⟩ := S
  intro T hT X
  rcases vx_callSX X hx (hh := hh) (bytes := bytes) (maxL := maxL) (ret := ret) ho hl hstt hini hcode hy hK hg (hsize.trans hml.symm) (argsL := As) (rest := rest) (fun sig h => hn.trans (hlen sig h)) hstack hW (by rw [hb]; exact hdg)
    (fun vm₁ hW₁ => ⟨hf.1, hf.2, hp.2 (T.setVm vm₁) hT hW₁⟩) with ⟨v, vm₁, ⟨U', l2, c2, s2⟩, hW₁, X', ⟨g', mk, t, L, e1, e2, hq, h1, hL, h2, h3⟩, st⟩ | ⟨q, vm₁, ⟨U', l2, c2, s2⟩, hW₁, X', ⟨g', mk, t, L, E, ce, e1, e2, hq, hce, hcv, hcl, h1, hL, h2, h3⟩, st⟩
  · dsimp only [Pt.U, Pt.locs, Pt.cells, Pt.slots] at X' e1 e2 h1 h2 h3 st
    subst h1; subst h2; subst h3
    exact Or.inl ⟨v, (T.setVm vm₁).calling g' mk As.toArray, t, U', L, hT, X', hL, e1, e2, hq, st⟩
  · dsimp only [Pt.U, Pt.locs, Pt.cells, Pt.slots] at X' e1 e2 h1 h2 h3 st hcl
    subst h1; subst h2; subst h3
    exact Or.inr ⟨q, (T.setVm vm₁).calling g' mk As.toArray, t, U', L, E, ce, hT, X', hL, e1, e2, hq, hce, hcv, vx_cls hW₁ hcl, st⟩
end
end VXH
theorem vx_ofWH {l : Launch} {y : MethodName} {ws ws' : List Cond} {rm : Room} {Pc : Array Value → State → Prop} {Qc : Array Value → State → Outcome → State → Prop} {XC : String → State → State → Prop} {mc ms : Nat} {free : Addr → Prop} {cc : ByteArray} {maxL : Nat} {ret : Option FieldType} {hh : List (Nat × Nat × Nat × Nat)}
    (hy : plainName y.cls = true) (hw : ws = Cond.codeWith y cc maxL ret hh :: ws')
    (body : ∀ p e s m args below meth c s₁, BodyLoose p l y (headSpec ws rm) cc maxL ret e s m args below meth c s₁ → c.maxLocals = maxL → Pc args s →
      W p l e (headSpec ws rm).room s m args below meth c s.heap [] 0 0 (vx_MQ below Qc XC args s mc ms free) (entryFrame m args maxL)) : vx_Met l y ws rm Pc Qc XC mc ms free := by
  refine MetFree.of_bodyS (code := cc) (maxLocals := maxL) (ret := ret) hy ?_ ?_
  · intro args s m h hn
    obtain ⟨m9, meth, c, hn9, h1, h2, h3, h4, -, h5, h6, -⟩ := Cond.codeWith_spec (atoms_spec (ws := ws) h _ (by rw [hw]; exact List.mem_cons_self))
    cases hn.symm.trans hn9
    exact ⟨meth, c, h1, h2, h3, h4, h5, h6⟩
  · intro p e s m args below meth c s₁ B hml hP _
    have hh0 : s₁.heap = s.heap := by rw [B.state]; rfl
    obtain ⟨t, a1, o, b1, b2, b3⟩ := body p e s m args below meth c s₁ B hml hP s₁ hh0 (Stand.of_body B)
    exact ⟨t, o, a1, b1, b2, b3⟩
/-! ===== END ===== -/
end
section
/-! names: printed rows of the claim (NAMES.whole), then the words by their places -/
/-! ===== BEGIN printed: names, fields, word lists, decode rows ===== -/
def RX0 : String := "YardTalk$Film"
def TX0 : u_T := fun k => match k with
  | 0 => ("YardTalk$Film", "image", "LYardTalk$World;", true)
  | 1 => ("YardTalk$Film", "isGap", "[Z", true)
  | 2 => ("YardTalk$Film", "from", "I", false)
  | _ => ("YardTalk$Film", "many", "I", false)
def tyX0 : Nat → FieldType := fun k => match k with
  | 0 => .object "YardTalk$World"
  | 1 => .array .boolean
  | 2 => .int
  | _ => .int
theorem nmX0 : ∀ a, a < 4 → ∀ b, b < 4 → a ≠ b → (TX0 a).2.1 ≠ (TX0 b).2.1 := by decide +kernel
theorem tyX0_ok : ∀ k, k < 4 → parseFieldDescriptor (TX0 k).2.2.1 = some (tyX0 k) := by decide +kernel
abbrev cX0_init : ByteArray := prog_2_method_1_code
def yX0_init : MethodName := ⟨RX0, "<init>", "()V"⟩
abbrev cX0_begin : ByteArray := prog_2_method_2_code
def yX0_begin : MethodName := ⟨RX0, "begin", "(LYardTalk$World;I)V"⟩
def RX1 : String := "YardTalk$Law"
def TX1 : u_T := fun k => match k with
  | 0 => ("YardTalk$Law", "clauses", "I", false)
  | 1 => ("YardTalk$Law", "words", "[I", true)
  | 2 => ("YardTalk$Law", "starts", "[I", true)
  | 3 => ("YardTalk$Law", "middles", "[I", true)
  | 4 => ("YardTalk$Law", "ends", "[I", true)
  | 5 => ("YardTalk$Law", "codes", "[I", true)
  | _ => ("YardTalk$Law", "length", "I", false)
def tyX1 : Nat → FieldType := fun k => match k with
  | 0 => .int
  | 1 => .array .int
  | 2 => .array .int
  | 3 => .array .int
  | 4 => .array .int
  | 5 => .array .int
  | _ => .int
theorem nmX1 : ∀ a, a < 7 → ∀ b, b < 7 → a ≠ b → (TX1 a).2.1 ≠ (TX1 b).2.1 := by decide +kernel
theorem tyX1_ok : ∀ k, k < 7 → parseFieldDescriptor (TX1 k).2.2.1 = some (tyX1 k) := by decide +kernel
abbrev cX1_init : ByteArray := prog_3_method_1_code
def yX1_init : MethodName := ⟨RX1, "<init>", "()V"⟩
abbrev cX1_clear : ByteArray := prog_3_method_2_code
def yX1_clear : MethodName := ⟨RX1, "clear", "()V"⟩
abbrev cX1_beginClause : ByteArray := prog_3_method_3_code
def yX1_beginClause : MethodName := ⟨RX1, "beginClause", "(I)V"⟩
abbrev cX1_closeValue : ByteArray := prog_3_method_4_code
def yX1_closeValue : MethodName := ⟨RX1, "closeValue", "()V"⟩
abbrev cX1_closeClause : ByteArray := prog_3_method_5_code
def yX1_closeClause : MethodName := ⟨RX1, "closeClause", "()V"⟩
abbrev cX1_put : ByteArray := prog_3_method_6_code
def yX1_put : MethodName := ⟨RX1, "put", "(I)V"⟩
abbrev cX1_work : ByteArray := prog_3_method_7_code
def yX1_work : MethodName := ⟨RX1, "work", "(II[I[I)I"⟩
abbrev cX1_act : ByteArray := prog_3_method_8_code
def yX1_act : MethodName := ⟨RX1, "act", "(III)I"⟩
def RX2 : String := "YardTalk$LawReader"
def TX2 : u_T := fun k => match k with
  | 0 => ("YardTalk$LawReader", "text", "[I", false)
  | 1 => ("YardTalk$LawReader", "length", "I", false)
  | 2 => ("YardTalk$LawReader", "law", "LYardTalk$Law;", false)
  | 3 => ("YardTalk$LawReader", "token", "I", false)
  | 4 => ("YardTalk$LawReader", "start", "I", false)
  | 5 => ("YardTalk$LawReader", "end", "I", false)
  | 6 => ("YardTalk$LawReader", "number", "I", false)
  | 7 => ("YardTalk$LawReader", "faultKind", "I", false)
  | _ => ("YardTalk$LawReader", "faultPlace", "I", false)
def tyX2 : Nat → FieldType := fun k => match k with
  | 0 => .array .int
  | 1 => .int
  | 2 => .object "YardTalk$Law"
  | 3 => .int
  | 4 => .int
  | 5 => .int
  | 6 => .int
  | 7 => .int
  | _ => .int
theorem nmX2 : ∀ a, a < 9 → ∀ b, b < 9 → a ≠ b → (TX2 a).2.1 ≠ (TX2 b).2.1 := by decide +kernel
theorem tyX2_ok : ∀ k, k < 9 → parseFieldDescriptor (TX2 k).2.2.1 = some (tyX2 k) := by decide +kernel
abbrev cX2_init : ByteArray := prog_4_method_1_code
def yX2_init : MethodName := ⟨RX2, "<init>", "()V"⟩
abbrev cX2_findFault : ByteArray := prog_4_method_2_code
def yX2_findFault : MethodName := ⟨RX2, "findFault", "([IILYardTalk$Law;)I"⟩
abbrev cX2_refuse : ByteArray := prog_4_method_3_code
def yX2_refuse : MethodName := ⟨RX2, "refuse", "(I)Z"⟩
abbrev cX2_step : ByteArray := prog_4_method_4_code
def yX2_step : MethodName := ⟨RX2, "step", "()V"⟩
abbrev cX2_readNumber : ByteArray := prog_4_method_5_code
def yX2_readNumber : MethodName := ⟨RX2, "readNumber", "()V"⟩
abbrev cX2_isDigit : ByteArray := prog_4_method_6_code
def yX2_isDigit : MethodName := ⟨RX2, "isDigit", "(I)Z"⟩
abbrev cX2_isLetter : ByteArray := prog_4_method_7_code
def yX2_isLetter : MethodName := ⟨RX2, "isLetter", "(I)Z"⟩
abbrev cX2_isAt : ByteArray := prog_4_method_8_code
def yX2_isAt : MethodName := ⟨RX2, "isAt", "(C)Z"⟩
abbrev cX2_isAt_ : ByteArray := prog_4_method_9_code
def yX2_isAt_ : MethodName := ⟨RX2, "isAt", "(Ljava/lang/String;)Z"⟩
abbrev cX2_pass : ByteArray := prog_4_method_10_code
def yX2_pass : MethodName := ⟨RX2, "pass", "(C)Z"⟩
abbrev cX2_passOpening : ByteArray := prog_4_method_11_code
def yX2_passOpening : MethodName := ⟨RX2, "passOpening", "(CI)Z"⟩
abbrev cX2_readClause : ByteArray := prog_4_method_12_code
def yX2_readClause : MethodName := ⟨RX2, "readClause", "(I)Z"⟩
abbrev cX2_clauseWord : ByteArray := prog_4_method_13_code
def yX2_clauseWord : MethodName := ⟨RX2, "clauseWord", "()I"⟩
abbrev cX2_readSum : ByteArray := prog_4_method_14_code
def yX2_readSum : MethodName := ⟨RX2, "readSum", "(I)Z"⟩
abbrev cX2_readProduct : ByteArray := prog_4_method_15_code
def yX2_readProduct : MethodName := ⟨RX2, "readProduct", "(I)Z"⟩
abbrev cX2_readUnit : ByteArray := prog_4_method_16_code
def yX2_readUnit : MethodName := ⟨RX2, "readUnit", "(I)Z"⟩
abbrev cX2_readCouple : ByteArray := prog_4_method_17_code
def yX2_readCouple : MethodName := ⟨RX2, "readCouple", "(II)Z"⟩
abbrev cX2_factName : ByteArray := prog_4_method_18_code
def yX2_factName : MethodName := ⟨RX2, "factName", "()I"⟩
abbrev cX2_readEither : ByteArray := prog_4_method_19_code
def yX2_readEither : MethodName := ⟨RX2, "readEither", "(I)Z"⟩
abbrev cX2_readBoth : ByteArray := prog_4_method_20_code
def yX2_readBoth : MethodName := ⟨RX2, "readBoth", "(I)Z"⟩
abbrev cX2_readBasic : ByteArray := prog_4_method_21_code
def yX2_readBasic : MethodName := ⟨RX2, "readBasic", "(I)Z"⟩
abbrev cX2_readComparison : ByteArray := prog_4_method_22_code
def yX2_readComparison : MethodName := ⟨RX2, "readComparison", "(I)Z"⟩
def RX3 : String := "YardTalk$Notes"
def TX3 : u_T := fun k => match k with
  | 0 => ("YardTalk$Notes", "many", "I", false)
  | 1 => ("YardTalk$Notes", "rows", "[I", true)
  | 2 => ("YardTalk$Notes", "firstChild", "[I", true)
  | 3 => ("YardTalk$Notes", "firstTalk", "[I", true)
  | _ => ("YardTalk$Notes", "heldSince", "[I", true)
def tyX3 : Nat → FieldType := fun k => match k with
  | 0 => .int
  | 1 => .array .int
  | 2 => .array .int
  | 3 => .array .int
  | _ => .array .int
theorem nmX3 : ∀ a, a < 5 → ∀ b, b < 5 → a ≠ b → (TX3 a).2.1 ≠ (TX3 b).2.1 := by decide +kernel
theorem tyX3_ok : ∀ k, k < 5 → parseFieldDescriptor (TX3 k).2.2.1 = some (tyX3 k) := by decide +kernel
abbrev cX3_init : ByteArray := prog_5_method_1_code
def yX3_init : MethodName := ⟨RX3, "<init>", "()V"⟩
abbrev cX3_at : ByteArray := prog_5_method_2_code
def yX3_at : MethodName := ⟨RX3, "at", "(II)I"⟩
abbrev cX3_write : ByteArray := prog_5_method_3_code
def yX3_write : MethodName := ⟨RX3, "write", "(LYardTalk$World;LYardTalk$Speech;)V"⟩
abbrev cX3_hasSigns : ByteArray := prog_5_method_4_code
def yX3_hasSigns : MethodName := ⟨RX3, "hasSigns", "(ILYardTalk$Speech;)Z"⟩
abbrev cX3_isLearnt : ByteArray := prog_5_method_5_code
def yX3_isLearnt : MethodName := ⟨RX3, "isLearnt", "(III)Z"⟩
abbrev cX3_askWhatIsHeld : ByteArray := prog_5_method_6_code
def yX3_askWhatIsHeld : MethodName := ⟨RX3, "askWhatIsHeld", "(LYardTalk$World;LYardTalk$Ruling;I)V"⟩
def RX4 : String := "YardTalk$Ruling"
def TX4 : u_T := fun k => match k with
  | 0 => ("YardTalk$Ruling", "facts", "[I", true)
  | 1 => ("YardTalk$Ruling", "stack", "[I", true)
  | 2 => ("YardTalk$Ruling", "law", "LYardTalk$Law;", false)
  | _ => ("YardTalk$Ruling", "leftOut", "I", false)
def tyX4 : Nat → FieldType := fun k => match k with
  | 0 => .array .int
  | 1 => .array .int
  | 2 => .object "YardTalk$Law"
  | _ => .int
theorem nmX4 : ∀ a, a < 4 → ∀ b, b < 4 → a ≠ b → (TX4 a).2.1 ≠ (TX4 b).2.1 := by decide +kernel
theorem tyX4_ok : ∀ k, k < 4 → parseFieldDescriptor (TX4 k).2.2.1 = some (tyX4 k) := by decide +kernel
abbrev cX4_init : ByteArray := prog_6_method_1_code
def yX4_init : MethodName := ⟨RX4, "<init>", "()V"⟩
abbrev cX4_use : ByteArray := prog_6_method_2_code
def yX4_use : MethodName := ⟨RX4, "use", "(LYardTalk$Law;I)V"⟩
abbrev cX4_ofChild : ByteArray := prog_6_method_3_code
def yX4_ofChild : MethodName := ⟨RX4, "ofChild", "(LYardTalk$World;I)V"⟩
abbrev cX4_ofTalk : ByteArray := prog_6_method_4_code
def yX4_ofTalk : MethodName := ⟨RX4, "ofTalk", "(ZZ)V"⟩
abbrev cX4_isHeld : ByteArray := prog_6_method_5_code
def yX4_isHeld : MethodName := ⟨RX4, "isHeld", "(LYardTalk$World;II)Z"⟩
abbrev cX4_valueOf : ByteArray := prog_6_method_6_code
def yX4_valueOf : MethodName := ⟨RX4, "valueOf", "(II)I"⟩
def RX5 : String := "YardTalk$Speech"
def TX5 : u_T := fun k => match k with
  | 0 => ("YardTalk$Speech", "says", "I", false)
  | 1 => ("YardTalk$Speech", "takes", "I", false)
  | 2 => ("YardTalk$Speech", "meant", "[I", true)
  | 3 => ("YardTalk$Speech", "orderSaid", "I", false)
  | 4 => ("YardTalk$Speech", "signs", "[I", true)
  | 5 => ("YardTalk$Speech", "orderTaken", "I", false)
  | 6 => ("YardTalk$Speech", "taken", "[I", true)
  | 7 => ("YardTalk$Speech", "isRight", "Z", false)
  | 8 => ("YardTalk$Speech", "isShown", "Z", false)
  | _ => ("YardTalk$Speech", "orderLearnt", "I", false)
def tyX5 : Nat → FieldType := fun k => match k with
  | 0 => .int
  | 1 => .int
  | 2 => .array .int
  | 3 => .int
  | 4 => .array .int
  | 5 => .int
  | 6 => .array .int
  | 7 => .boolean
  | 8 => .boolean
  | _ => .int
theorem nmX5 : ∀ a, a < 10 → ∀ b, b < 10 → a ≠ b → (TX5 a).2.1 ≠ (TX5 b).2.1 := by decide +kernel
theorem tyX5_ok : ∀ k, k < 10 → parseFieldDescriptor (TX5 k).2.2.1 = some (tyX5 k) := by decide +kernel
abbrev cX5_init : ByteArray := prog_7_method_1_code
def yX5_init : MethodName := ⟨RX5, "<init>", "()V"⟩
abbrev cX5_begin : ByteArray := prog_7_method_2_code
def yX5_begin : MethodName := ⟨RX5, "begin", "(IIIII)V"⟩
abbrev cX5_makeIn : ByteArray := prog_7_method_3_code
def yX5_makeIn : MethodName := ⟨RX5, "makeIn", "(LYardTalk$World;LYardTalk$Ruling;)V"⟩
abbrev cX5_sayIn : ByteArray := prog_7_method_4_code
def yX5_sayIn : MethodName := ⟨RX5, "sayIn", "(LYardTalk$World;)V"⟩
abbrev cX5_conceptMeant : ByteArray := prog_7_method_5_code
def yX5_conceptMeant : MethodName := ⟨RX5, "conceptMeant", "(I)I"⟩
abbrev cX5_takeIn : ByteArray := prog_7_method_6_code
def yX5_takeIn : MethodName := ⟨RX5, "takeIn", "(LYardTalk$World;)V"⟩
abbrev cX5_guessPart : ByteArray := prog_7_method_7_code
def yX5_guessPart : MethodName := ⟨RX5, "guessPart", "(LYardTalk$World;II)I"⟩
abbrev cX5_learnIn : ByteArray := prog_7_method_8_code
def yX5_learnIn : MethodName := ⟨RX5, "learnIn", "(LYardTalk$World;LYardTalk$Ruling;)V"⟩
abbrev cX5_learnSign : ByteArray := prog_7_method_9_code
def yX5_learnSign : MethodName := ⟨RX5, "learnSign", "(LYardTalk$World;LYardTalk$Ruling;II)V"⟩
abbrev cX5_learnOrder : ByteArray := prog_7_method_10_code
def yX5_learnOrder : MethodName := ⟨RX5, "learnOrder", "(LYardTalk$World;LYardTalk$Ruling;)V"⟩
abbrev cX5_strengthenIn : ByteArray := prog_7_method_11_code
def yX5_strengthenIn : MethodName := ⟨RX5, "strengthenIn", "(LYardTalk$World;)V"⟩
def RX6 : String := "YardTalk$World"
def TX6 : u_T := fun k => match k with
  | 0 => ("YardTalk$World", "choice", "I", false)
  | 1 => ("YardTalk$World", "chance", "I", false)
  | 2 => ("YardTalk$World", "year", "I", false)
  | 3 => ("YardTalk$World", "wear", "I", false)
  | 4 => ("YardTalk$World", "point", "I", false)
  | 5 => ("YardTalk$World", "lawInForce", "I", false)
  | 6 => ("YardTalk$World", "children", "I", false)
  | 7 => ("YardTalk$World", "yard", "[I", true)
  | 8 => ("YardTalk$World", "age", "[I", true)
  | 9 => ("YardTalk$World", "yearCame", "[I", true)
  | 10 => ("YardTalk$World", "kind", "[I", true)
  | 11 => ("YardTalk$World", "present", "[I", true)
  | 12 => ("YardTalk$World", "took", "[I", true)
  | 13 => ("YardTalk$World", "said", "[I", true)
  | 14 => ("YardTalk$World", "signs", "[I", true)
  | 15 => ("YardTalk$World", "orders", "[I", true)
  | _ => ("YardTalk$World", "uses", "[I", true)
def tyX6 : Nat → FieldType := fun k => match k with
  | 0 => .int
  | 1 => .int
  | 2 => .int
  | 3 => .int
  | 4 => .int
  | 5 => .int
  | 6 => .int
  | 7 => .array .int
  | 8 => .array .int
  | 9 => .array .int
  | 10 => .array .int
  | 11 => .array .int
  | 12 => .array .int
  | 13 => .array .int
  | 14 => .array .int
  | 15 => .array .int
  | _ => .array .int
theorem nmX6 : ∀ a, a < 17 → ∀ b, b < 17 → a ≠ b → (TX6 a).2.1 ≠ (TX6 b).2.1 := by decide +kernel
theorem tyX6_ok : ∀ k, k < 17 → parseFieldDescriptor (TX6 k).2.2.1 = some (tyX6 k) := by decide +kernel
abbrev cX6_init : ByteArray := prog_8_method_1_code
def yX6_init : MethodName := ⟨RX6, "<init>", "()V"⟩
abbrev cX6_become : ByteArray := prog_8_method_2_code
def yX6_become : MethodName := ⟨RX6, "become", "(LYardTalk$World;)V"⟩
abbrev cX6_takeBackSaying : ByteArray := prog_8_method_3_code
def yX6_takeBackSaying : MethodName := ⟨RX6, "takeBackSaying", "(LYardTalk$World;)V"⟩
abbrev cX6_advance : ByteArray := prog_8_method_4_code
def yX6_advance : MethodName := ⟨RX6, "advance", "(I)I"⟩
abbrev cX6_pick : ByteArray := prog_8_method_5_code
def yX6_pick : MethodName := ⟨RX6, "pick", "(II)I"⟩
abbrev cX6_drawChoice : ByteArray := prog_8_method_6_code
def yX6_drawChoice : MethodName := ⟨RX6, "drawChoice", "(I)I"⟩
abbrev cX6_drawChance : ByteArray := prog_8_method_7_code
def yX6_drawChance : MethodName := ⟨RX6, "drawChance", "(I)I"⟩
abbrev cX6_arrive : ByteArray := prog_8_method_8_code
def yX6_arrive : MethodName := ⟨RX6, "arrive", "(IIZ)I"⟩
abbrev cX6_giveFirstWeights : ByteArray := prog_8_method_9_code
def yX6_giveFirstWeights : MethodName := ⟨RX6, "giveFirstWeights", "(I)V"⟩
abbrev cX6_yearsHere : ByteArray := prog_8_method_10_code
def yX6_yearsHere : MethodName := ⟨RX6, "yearsHere", "(I)I"⟩
abbrev cX6_ageNow : ByteArray := prog_8_method_11_code
def yX6_ageNow : MethodName := ⟨RX6, "ageNow", "(I)I"⟩
abbrev cX6_isThere : ByteArray := prog_8_method_12_code
def yX6_isThere : MethodName := ⟨RX6, "isThere", "(II)Z"⟩
abbrev cX6_areTogether : ByteArray := prog_8_method_13_code
def yX6_areTogether : MethodName := ⟨RX6, "areTogether", "(II)Z"⟩
abbrev cX6_gather : ByteArray := prog_8_method_14_code
def yX6_gather : MethodName := ⟨RX6, "gather", "(I[I)I"⟩
abbrev cX6_countThere : ByteArray := prog_8_method_15_code
def yX6_countThere : MethodName := ⟨RX6, "countThere", "(I)I"⟩
abbrev cX6_keepFirst : ByteArray := prog_8_method_16_code
def yX6_keepFirst : MethodName := ⟨RX6, "keepFirst", "(II)V"⟩
abbrev cX6_sendTeachersAway : ByteArray := prog_8_method_17_code
def yX6_sendTeachersAway : MethodName := ⟨RX6, "sendTeachersAway", "(I)V"⟩
abbrev cX6_heaviestSign : ByteArray := prog_8_method_18_code
def yX6_heaviestSign : MethodName := ⟨RX6, "heaviestSign", "(II)I"⟩
abbrev cX6_heaviestOrder : ByteArray := prog_8_method_19_code
def yX6_heaviestOrder : MethodName := ⟨RX6, "heaviestOrder", "(I)I"⟩
abbrev cX6_chooseSign : ByteArray := prog_8_method_20_code
def yX6_chooseSign : MethodName := ⟨RX6, "chooseSign", "(II)I"⟩
abbrev cX6_chooseOrder : ByteArray := prog_8_method_21_code
def yX6_chooseOrder : MethodName := ⟨RX6, "chooseOrder", "(I)I"⟩
abbrev cX6_areBothWorn : ByteArray := prog_8_method_22_code
def yX6_areBothWorn : MethodName := ⟨RX6, "areBothWorn", "(II)Z"⟩
abbrev cX6_seenAs : ByteArray := prog_8_method_23_code
def yX6_seenAs : MethodName := ⟨RX6, "seenAs", "(II)I"⟩
abbrev cX6_seenFor : ByteArray := prog_8_method_24_code
def yX6_seenFor : MethodName := ⟨RX6, "seenFor", "(II)I"⟩
abbrev cX6_weightSeen : ByteArray := prog_8_method_25_code
def yX6_weightSeen : MethodName := ⟨RX6, "weightSeen", "(III)I"⟩
abbrev cX6_addToSign : ByteArray := prog_8_method_26_code
def yX6_addToSign : MethodName := ⟨RX6, "addToSign", "(IIII)V"⟩
abbrev cX6_addToOrder : ByteArray := prog_8_method_27_code
def yX6_addToOrder : MethodName := ⟨RX6, "addToOrder", "(III)V"⟩
abbrev cX6_signOfYard : ByteArray := prog_8_method_28_code
def yX6_signOfYard : MethodName := ⟨RX6, "signOfYard", "(II)I"⟩
abbrev cX6_orderOfYard : ByteArray := prog_8_method_29_code
def yX6_orderOfYard : MethodName := ⟨RX6, "orderOfYard", "(I)I"⟩
def RX7 : String := "YardTalk"
def TX7 : u_T := fun k => match k with
  | 0 => ("YardTalk", "now", "LYardTalk$World;", true)
  | 1 => ("YardTalk", "copy", "LYardTalk$World;", true)
  | 2 => ("YardTalk", "images", "[LYardTalk$World;", true)
  | 3 => ("YardTalk", "films", "[LYardTalk$Film;", true)
  | 4 => ("YardTalk", "laws", "[LYardTalk$Law;", true)
  | 5 => ("YardTalk", "notes", "LYardTalk$Notes;", true)
  | 6 => ("YardTalk", "speech", "LYardTalk$Speech;", true)
  | 7 => ("YardTalk", "ruling", "LYardTalk$Ruling;", true)
  | 8 => ("YardTalk", "reader", "LYardTalk$LawReader;", true)
  | 9 => ("YardTalk", "tape", "[I", true)
  | 10 => ("YardTalk", "crowd", "[I", true)
  | 11 => ("YardTalk", "tally", "[I", true)
  | 12 => ("YardTalk", "tapeBytes", "I", false)
  | 13 => ("YardTalk", "faultPlace", "I", false)
  | 14 => ("YardTalk", "lawCount", "I", false)
  | 15 => ("YardTalk", "filmCount", "I", false)
  | 16 => ("YardTalk", "filmOn", "I", false)
  | _ => ("YardTalk", "imageCount", "I", false)
def tyX7 : Nat → FieldType := fun k => match k with
  | 0 => .object "YardTalk$World"
  | 1 => .object "YardTalk$World"
  | 2 => .array (.object "YardTalk$World")
  | 3 => .array (.object "YardTalk$Film")
  | 4 => .array (.object "YardTalk$Law")
  | 5 => .object "YardTalk$Notes"
  | 6 => .object "YardTalk$Speech"
  | 7 => .object "YardTalk$Ruling"
  | 8 => .object "YardTalk$LawReader"
  | 9 => .array .int
  | 10 => .array .int
  | 11 => .array .int
  | 12 => .int
  | 13 => .int
  | 14 => .int
  | 15 => .int
  | 16 => .int
  | _ => .int
theorem nmX7 : ∀ a, a < 18 → ∀ b, b < 18 → a ≠ b → (TX7 a).2.1 ≠ (TX7 b).2.1 := by decide +kernel
theorem tyX7_ok : ∀ k, k < 18 → parseFieldDescriptor (TX7 k).2.2.1 = some (tyX7 k) := by decide +kernel
abbrev cX7_init : ByteArray := prog_1_method_1_code
def yX7_init : MethodName := ⟨RX7, "<init>", "()V"⟩
abbrev cX7_seeds : ByteArray := prog_1_method_2_code
def yX7_seeds : MethodName := ⟨RX7, "seeds", "(II)V"⟩
abbrev cX7_come : ByteArray := prog_1_method_3_code
def yX7_come : MethodName := ⟨RX7, "come", "(IIZ)I"⟩
abbrev cX7_leave : ByteArray := prog_1_method_4_code
def yX7_leave : MethodName := ⟨RX7, "leave", "(I)I"⟩
abbrev cX7_visit : ByteArray := prog_1_method_5_code
def yX7_visit : MethodName := ⟨RX7, "visit", "(II)I"⟩
abbrev cX7_of : ByteArray := prog_1_method_6_code
def yX7_of : MethodName := ⟨RX7, "of", "(II)I"⟩
abbrev cX7_sign : ByteArray := prog_1_method_7_code
def yX7_sign : MethodName := ⟨RX7, "sign", "(III)I"⟩
abbrev cX7_order : ByteArray := prog_1_method_8_code
def yX7_order : MethodName := ⟨RX7, "order", "(II)I"⟩
abbrev cX7_holds : ByteArray := prog_1_method_9_code
def yX7_holds : MethodName := ⟨RX7, "holds", "(II)Z"⟩
abbrev cX7_set : ByteArray := prog_1_method_10_code
def yX7_set : MethodName := ⟨RX7, "set", "(II)I"⟩
abbrev cX7_years : ByteArray := prog_1_method_11_code
def yX7_years : MethodName := ⟨RX7, "years", "(I)I"⟩
abbrev cX7_feed : ByteArray := prog_1_method_12_code
def yX7_feed : MethodName := ⟨RX7, "feed", "(IIIII)I"⟩
abbrev cX7_law : ByteArray := prog_1_method_13_code
def yX7_law : MethodName := ⟨RX7, "law", "(I)I"⟩
abbrev cX7_fault : ByteArray := prog_1_method_14_code
def yX7_fault : MethodName := ⟨RX7, "fault", "()I"⟩
abbrev cX7_force : ByteArray := prog_1_method_15_code
def yX7_force : MethodName := ⟨RX7, "force", "(I)I"⟩
abbrev cX7_talk : ByteArray := prog_1_method_16_code
def yX7_talk : MethodName := ⟨RX7, "talk", "(IIIII)I"⟩
abbrev cX7_run : ByteArray := prog_1_method_17_code
def yX7_run : MethodName := ⟨RX7, "run", "(II)I"⟩
abbrev cX7_note : ByteArray := prog_1_method_18_code
def yX7_note : MethodName := ⟨RX7, "note", "(II)I"⟩
abbrev cX7_share : ByteArray := prog_1_method_19_code
def yX7_share : MethodName := ⟨RX7, "share", "(IIIZ)I"⟩
abbrev cX7_held : ByteArray := prog_1_method_20_code
def yX7_held : MethodName := ⟨RX7, "held", "(II)I"⟩
abbrev cX7_first : ByteArray := prog_1_method_21_code
def yX7_first : MethodName := ⟨RX7, "first", "(II)I"⟩
abbrev cX7_back : ByteArray := prog_1_method_22_code
def yX7_back : MethodName := ⟨RX7, "back", "(III)I"⟩
abbrev cX7_uses : ByteArray := prog_1_method_23_code
def yX7_uses : MethodName := ⟨RX7, "uses", "(II)I"⟩
abbrev cX7_seen : ByteArray := prog_1_method_24_code
def yX7_seen : MethodName := ⟨RX7, "seen", "(II)I"⟩
abbrev cX7_film : ByteArray := prog_1_method_25_code
def yX7_film : MethodName := ⟨RX7, "film", "()I"⟩
abbrev cX7_end : ByteArray := prog_1_method_26_code
def yX7_end : MethodName := ⟨RX7, "end", "()I"⟩
abbrev cX7_gap : ByteArray := prog_1_method_27_code
def yX7_gap : MethodName := ⟨RX7, "gap", "(II)I"⟩
abbrev cX7_fits : ByteArray := prog_1_method_28_code
def yX7_fits : MethodName := ⟨RX7, "fits", "(II)I"⟩
abbrev cX7_read : ByteArray := prog_1_method_29_code
def yX7_read : MethodName := ⟨RX7, "read", "()I"⟩
abbrev cX7_trial : ByteArray := prog_1_method_30_code
def yX7_trial : MethodName := ⟨RX7, "trial", "(IIII)I"⟩
abbrev cX7_fewest : ByteArray := prog_1_method_31_code
def yX7_fewest : MethodName := ⟨RX7, "fewest", "(IIII)I"⟩
abbrev cX7_needed : ByteArray := prog_1_method_32_code
def yX7_needed : MethodName := ⟨RX7, "needed", "(III)I"⟩
abbrev cX7_unlike : ByteArray := prog_1_method_33_code
def yX7_unlike : MethodName := ⟨RX7, "unlike", "(II)I"⟩
abbrev cX7_meets : ByteArray := prog_1_method_34_code
def yX7_meets : MethodName := ⟨RX7, "meets", "(II)I"⟩
abbrev cX7_image : ByteArray := prog_1_method_35_code
def yX7_image : MethodName := ⟨RX7, "image", "()I"⟩
abbrev cX7_restore : ByteArray := prog_1_method_36_code
def yX7_restore : MethodName := ⟨RX7, "restore", "()I"⟩
abbrev cX7_plain : ByteArray := prog_1_method_37_code
def yX7_plain : MethodName := ⟨RX7, "plain", "(I)I"⟩
abbrev cX7_word : ByteArray := prog_1_method_38_code
def yX7_word : MethodName := ⟨RX7, "word", "(II)I"⟩
abbrev cX7_blurred : ByteArray := prog_1_method_39_code
def yX7_blurred : MethodName := ⟨RX7, "blurred", "(II)I"⟩
abbrev cX7_nearest : ByteArray := prog_1_method_40_code
def yX7_nearest : MethodName := ⟨RX7, "nearest", "(I)I"⟩
abbrev cX7_since : ByteArray := prog_1_method_41_code
def yX7_since : MethodName := ⟨RX7, "since", "(II)I"⟩
abbrev cX7_taught : ByteArray := prog_1_method_42_code
def yX7_taught : MethodName := ⟨RX7, "taught", "(II)I"⟩
abbrev cX7_root : ByteArray := prog_1_method_43_code
def yX7_root : MethodName := ⟨RX7, "root", "(II)I"⟩
abbrev cX7_untaught : ByteArray := prog_1_method_44_code
def yX7_untaught : MethodName := ⟨RX7, "untaught", "(III)I"⟩
abbrev cX7_odds : ByteArray := prog_1_method_45_code
def yX7_odds : MethodName := ⟨RX7, "odds", "(IIII)I"⟩
abbrev cX7_right : ByteArray := prog_1_method_46_code
def yX7_right : MethodName := ⟨RX7, "right", "(III)I"⟩
abbrev cX7_count : ByteArray := prog_1_method_47_code
def yX7_count : MethodName := ⟨RX7, "count", "(I)I"⟩
abbrev cX7_checkChild : ByteArray := prog_1_method_48_code
def yX7_checkChild : MethodName := ⟨RX7, "checkChild", "(I)V"⟩
abbrev cX7_checkLaw : ByteArray := prog_1_method_49_code
def yX7_checkLaw : MethodName := ⟨RX7, "checkLaw", "(I)V"⟩
abbrev cX7_checkFilm : ByteArray := prog_1_method_50_code
def yX7_checkFilm : MethodName := ⟨RX7, "checkFilm", "(I)V"⟩
abbrev cX7_checkYard : ByteArray := prog_1_method_51_code
def yX7_checkYard : MethodName := ⟨RX7, "checkYard", "(I)V"⟩
abbrev cX7_checkConcept : ByteArray := prog_1_method_52_code
def yX7_checkConcept : MethodName := ⟨RX7, "checkConcept", "(I)V"⟩
abbrev cX7_checkSign : ByteArray := prog_1_method_53_code
def yX7_checkSign : MethodName := ⟨RX7, "checkSign", "(I)V"⟩
abbrev cX7_checkOrder : ByteArray := prog_1_method_54_code
def yX7_checkOrder : MethodName := ⟨RX7, "checkOrder", "(I)V"⟩
abbrev cX7_checkKind : ByteArray := prog_1_method_55_code
def yX7_checkKind : MethodName := ⟨RX7, "checkKind", "(I)V"⟩
abbrev cX7_checkRunLength : ByteArray := prog_1_method_56_code
def yX7_checkRunLength : MethodName := ⟨RX7, "checkRunLength", "(I)V"⟩
abbrev cX7_checkTrial : ByteArray := prog_1_method_57_code
def yX7_checkTrial : MethodName := ⟨RX7, "checkTrial", "(III)V"⟩
abbrev cX7_isOfFour : ByteArray := prog_1_method_58_code
def yX7_isOfFour : MethodName := ⟨RX7, "isOfFour", "(I)Z"⟩
abbrev cX7_signIndex : ByteArray := prog_1_method_59_code
def yX7_signIndex : MethodName := ⟨RX7, "signIndex", "(III)I"⟩
abbrev cX7_roleAt : ByteArray := prog_1_method_60_code
def yX7_roleAt : MethodName := ⟨RX7, "roleAt", "(II)I"⟩
abbrev cX7_conceptOf : ByteArray := prog_1_method_61_code
def yX7_conceptOf : MethodName := ⟨RX7, "conceptOf", "(II)I"⟩
abbrev cX7_keepInBounds : ByteArray := prog_1_method_62_code
def yX7_keepInBounds : MethodName := ⟨RX7, "keepInBounds", "(I)I"⟩
abbrev cX7_putBytes : ByteArray := prog_1_method_63_code
def yX7_putBytes : MethodName := ⟨RX7, "putBytes", "(I)V"⟩
abbrev cX7_stopFilm : ByteArray := prog_1_method_64_code
def yX7_stopFilm : MethodName := ⟨RX7, "stopFilm", "()V"⟩
abbrev cX7_lawOf : ByteArray := prog_1_method_65_code
def yX7_lawOf : MethodName := ⟨RX7, "lawOf", "(I)LYardTalk$Law;"⟩
abbrev cX7_useLawInForce : ByteArray := prog_1_method_66_code
def yX7_useLawInForce : MethodName := ⟨RX7, "useLawInForce", "()V"⟩
abbrev cX7_countOrdersHeld : ByteArray := prog_1_method_67_code
def yX7_countOrdersHeld : MethodName := ⟨RX7, "countOrdersHeld", "(I)I"⟩
abbrev cX7_countHolders : ByteArray := prog_1_method_68_code
def yX7_countHolders : MethodName := ⟨RX7, "countHolders", "(LYardTalk$World;II)I"⟩
abbrev cX7_drawTalk : ByteArray := prog_1_method_69_code
def yX7_drawTalk : MethodName := ⟨RX7, "drawTalk", "(LYardTalk$World;I)V"⟩
abbrev cX7_makeNotedTalk : ByteArray := prog_1_method_70_code
def yX7_makeNotedTalk : MethodName := ⟨RX7, "makeNotedTalk", "()V"⟩
abbrev cX7_tryOut : ByteArray := prog_1_method_71_code
def yX7_tryOut : MethodName := ⟨RX7, "tryOut", "(III)I"⟩
abbrev cX7_countAlike : ByteArray := prog_1_method_72_code
def yX7_countAlike : MethodName := ⟨RX7, "countAlike", "(LYardTalk$Film;I)I"⟩
abbrev cX7_countUnlike : ByteArray := prog_1_method_73_code
def yX7_countUnlike : MethodName := ⟨RX7, "countUnlike", "(II)I"⟩
abbrev cX7_areBlurred : ByteArray := prog_1_method_74_code
def yX7_areBlurred : MethodName := ⟨RX7, "areBlurred", "(III)Z"⟩
abbrev cX7_countSeenAlone : ByteArray := prog_1_method_75_code
def yX7_countSeenAlone : MethodName := ⟨RX7, "countSeenAlone", "(II)I"⟩
abbrev cX7_findTeacher : ByteArray := prog_1_method_76_code
def yX7_findTeacher : MethodName := ⟨RX7, "findTeacher", "(II)I"⟩
def RX8 : String := "YardTalkModel"
def TX8 : u_T := fun k => match k with
  | 0 => ("YardTalkModel", "thrown", "I", false)
  | 1 => ("YardTalkModel", "real", "[I", true)
  | 2 => ("YardTalkModel", "copy", "[I", true)
  | 3 => ("YardTalkModel", "w", "[I", false)
  | 4 => ("YardTalkModel", "taped", "I", false)
  | 5 => ("YardTalkModel", "size", "I", false)
  | 6 => ("YardTalkModel", "place", "I", false)
  | 7 => ("YardTalkModel", "bad", "I", false)
  | 8 => ("YardTalkModel", "badKind", "I", false)
  | 9 => ("YardTalkModel", "opens", "I", false)
  | 10 => ("YardTalkModel", "codes", "I", false)
  | 11 => ("YardTalkModel", "laws", "I", false)
  | 12 => ("YardTalkModel", "faultAt", "I", false)
  | 13 => ("YardTalkModel", "tape", "[I", true)
  | 14 => ("YardTalkModel", "clauses", "[I", true)
  | 15 => ("YardTalkModel", "kind", "[I", true)
  | 16 => ("YardTalkModel", "from", "[I", true)
  | 17 => ("YardTalkModel", "mid", "[I", true)
  | 18 => ("YardTalkModel", "to", "[I", true)
  | 19 => ("YardTalkModel", "code", "[I", true)
  | 20 => ("YardTalkModel", "codeNumber", "[I", true)
  | 21 => ("YardTalkModel", "askAge", "I", false)
  | 22 => ("YardTalkModel", "askThere", "I", false)
  | 23 => ("YardTalkModel", "askRight", "I", false)
  | 24 => ("YardTalkModel", "askShown", "I", false)
  | 25 => ("YardTalkModel", "askWeight", "I", false)
  | 26 => ("YardTalkModel", "askTalks", "I", false)
  | 27 => ("YardTalkModel", "without", "I", false)
  | 28 => ("YardTalkModel", "stack", "[I", true)
  | 29 => ("YardTalkModel", "orderSaid", "I", false)
  | 30 => ("YardTalkModel", "orderTook", "I", false)
  | 31 => ("YardTalkModel", "learnt", "I", false)
  | 32 => ("YardTalkModel", "isRight", "Z", false)
  | 33 => ("YardTalkModel", "isShown", "Z", false)
  | 34 => ("YardTalkModel", "meant", "[I", true)
  | 35 => ("YardTalkModel", "said", "[I", true)
  | 36 => ("YardTalkModel", "took", "[I", true)
  | 37 => ("YardTalkModel", "notes", "I", false)
  | 38 => ("YardTalkModel", "note", "[I", true)
  | 39 => ("YardTalkModel", "firstOf", "[I", true)
  | 40 => ("YardTalkModel", "sinceOf", "[I", true)
  | 41 => ("YardTalkModel", "hereMany", "I", false)
  | 42 => ("YardTalkModel", "hereRow", "[I", true)
  | 43 => ("YardTalkModel", "drawnSays", "I", false)
  | 44 => ("YardTalkModel", "drawnTakes", "I", false)
  | 45 => ("YardTalkModel", "films", "I", false)
  | 46 => ("YardTalkModel", "film", "I", false)
  | 47 => ("YardTalkModel", "filmFrom", "[I", true)
  | 48 => ("YardTalkModel", "filmMany", "[I", true)
  | 49 => ("YardTalkModel", "kept", "[I", true)
  | 50 => ("YardTalkModel", "isGap", "[Z", true)
  | 51 => ("YardTalkModel", "yardSigns", "[I", true)
  | 52 => ("YardTalkModel", "would", "[I", true)
  | 53 => ("YardTalkModel", "saidTo", "[I", true)
  | 54 => ("YardTalkModel", "images", "I", false)
  | _ => ("YardTalkModel", "image", "[I", true)
def tyX8 : Nat → FieldType := fun k => match k with
  | 0 => .int
  | 1 => .array .int
  | 2 => .array .int
  | 3 => .array .int
  | 4 => .int
  | 5 => .int
  | 6 => .int
  | 7 => .int
  | 8 => .int
  | 9 => .int
  | 10 => .int
  | 11 => .int
  | 12 => .int
  | 13 => .array .int
  | 14 => .array .int
  | 15 => .array .int
  | 16 => .array .int
  | 17 => .array .int
  | 18 => .array .int
  | 19 => .array .int
  | 20 => .array .int
  | 21 => .int
  | 22 => .int
  | 23 => .int
  | 24 => .int
  | 25 => .int
  | 26 => .int
  | 27 => .int
  | 28 => .array .int
  | 29 => .int
  | 30 => .int
  | 31 => .int
  | 32 => .boolean
  | 33 => .boolean
  | 34 => .array .int
  | 35 => .array .int
  | 36 => .array .int
  | 37 => .int
  | 38 => .array .int
  | 39 => .array .int
  | 40 => .array .int
  | 41 => .int
  | 42 => .array .int
  | 43 => .int
  | 44 => .int
  | 45 => .int
  | 46 => .int
  | 47 => .array .int
  | 48 => .array .int
  | 49 => .array .int
  | 50 => .array .boolean
  | 51 => .array .int
  | 52 => .array .int
  | 53 => .array .int
  | 54 => .int
  | _ => .array .int
theorem nmX8 : ∀ a, a < 56 → ∀ b, b < 56 → a ≠ b → (TX8 a).2.1 ≠ (TX8 b).2.1 := by decide +kernel
theorem tyX8_ok : ∀ k, k < 56 → parseFieldDescriptor (TX8 k).2.2.1 = some (tyX8 k) := by decide +kernel
abbrev cX8_thrown : ByteArray := prog_10_method_1_code
def yX8_thrown : MethodName := ⟨RX8, "thrown", "()I"⟩
abbrev cX8_may : ByteArray := prog_10_method_2_code
def yX8_may : MethodName := ⟨RX8, "may", "(ZI)Z"⟩
abbrev cX8_within : ByteArray := prog_10_method_3_code
def yX8_within : MethodName := ⟨RX8, "within", "(III)Z"⟩
abbrev cX8_init : ByteArray := prog_10_method_4_code
def yX8_init : MethodName := ⟨RX8, "<init>", "()V"⟩
abbrev cX8_draw : ByteArray := prog_10_method_5_code
def yX8_draw : MethodName := ⟨RX8, "draw", "(II)I"⟩
abbrev cX8_at : ByteArray := prog_10_method_6_code
def yX8_at : MethodName := ⟨RX8, "at", "(I)I"⟩
abbrev cX8_isChild : ByteArray := prog_10_method_7_code
def yX8_isChild : MethodName := ⟨RX8, "isChild", "(I)Z"⟩
abbrev cX8_isYard : ByteArray := prog_10_method_8_code
def yX8_isYard : MethodName := ⟨RX8, "isYard", "(I)Z"⟩
abbrev cX8_isOrder : ByteArray := prog_10_method_9_code
def yX8_isOrder : MethodName := ⟨RX8, "isOrder", "(I)Z"⟩
abbrev cX8_seeds : ByteArray := prog_10_method_10_code
def yX8_seeds : MethodName := ⟨RX8, "seeds", "(II)V"⟩
abbrev cX8_come : ByteArray := prog_10_method_11_code
def yX8_come : MethodName := ⟨RX8, "come", "(IIZ)I"⟩
abbrev cX8_leave : ByteArray := prog_10_method_12_code
def yX8_leave : MethodName := ⟨RX8, "leave", "(I)I"⟩
abbrev cX8_visit : ByteArray := prog_10_method_13_code
def yX8_visit : MethodName := ⟨RX8, "visit", "(II)I"⟩
abbrev cX8_of : ByteArray := prog_10_method_14_code
def yX8_of : MethodName := ⟨RX8, "of", "(II)I"⟩
abbrev cX8_sign : ByteArray := prog_10_method_15_code
def yX8_sign : MethodName := ⟨RX8, "sign", "(III)I"⟩
abbrev cX8_order : ByteArray := prog_10_method_16_code
def yX8_order : MethodName := ⟨RX8, "order", "(II)I"⟩
abbrev cX8_holds : ByteArray := prog_10_method_17_code
def yX8_holds : MethodName := ⟨RX8, "holds", "(II)Z"⟩
abbrev cX8_set : ByteArray := prog_10_method_18_code
def yX8_set : MethodName := ⟨RX8, "set", "(II)I"⟩
abbrev cX8_years : ByteArray := prog_10_method_19_code
def yX8_years : MethodName := ⟨RX8, "years", "(I)I"⟩
abbrev cX8_feed : ByteArray := prog_10_method_20_code
def yX8_feed : MethodName := ⟨RX8, "feed", "(IIIII)I"⟩
abbrev cX8_fine : ByteArray := prog_10_method_21_code
def yX8_fine : MethodName := ⟨RX8, "fine", "()Z"⟩
abbrev cX8_wrong : ByteArray := prog_10_method_22_code
def yX8_wrong : MethodName := ⟨RX8, "wrong", "(II)V"⟩
abbrev cX8_here : ByteArray := prog_10_method_23_code
def yX8_here : MethodName := ⟨RX8, "here", "()I"⟩
abbrev cX8_isSmall : ByteArray := prog_10_method_24_code
def yX8_isSmall : MethodName := ⟨RX8, "isSmall", "(I)Z"⟩
abbrev cX8_isDigit : ByteArray := prog_10_method_25_code
def yX8_isDigit : MethodName := ⟨RX8, "isDigit", "(I)Z"⟩
abbrev cX8_word : ByteArray := prog_10_method_26_code
def yX8_word : MethodName := ⟨RX8, "word", "()I"⟩
abbrev cX8_pass : ByteArray := prog_10_method_27_code
def yX8_pass : MethodName := ⟨RX8, "pass", "()V"⟩
abbrev cX8_readNumber : ByteArray := prog_10_method_28_code
def yX8_readNumber : MethodName := ⟨RX8, "readNumber", "()I"⟩
abbrev cX8_need : ByteArray := prog_10_method_29_code
def yX8_need : MethodName := ⟨RX8, "need", "(I)V"⟩
abbrev cX8_emit : ByteArray := prog_10_method_30_code
def yX8_emit : MethodName := ⟨RX8, "emit", "(II)V"⟩
abbrev cX8_opensAt : ByteArray := prog_10_method_31_code
def yX8_opensAt : MethodName := ⟨RX8, "opensAt", "(II)V"⟩
abbrev cX8_closesAt : ByteArray := prog_10_method_32_code
def yX8_closesAt : MethodName := ⟨RX8, "closesAt", "(I)V"⟩
abbrev cX8_name : ByteArray := prog_10_method_33_code
def yX8_name : MethodName := ⟨RX8, "name", "(I)I"⟩
abbrev cX8_unit : ByteArray := prog_10_method_34_code
def yX8_unit : MethodName := ⟨RX8, "unit", "()V"⟩
abbrev cX8_product : ByteArray := prog_10_method_35_code
def yX8_product : MethodName := ⟨RX8, "product", "()V"⟩
abbrev cX8_sum : ByteArray := prog_10_method_36_code
def yX8_sum : MethodName := ⟨RX8, "sum", "()V"⟩
abbrev cX8_anyOf : ByteArray := prog_10_method_37_code
def yX8_anyOf : MethodName := ⟨RX8, "anyOf", "()V"⟩
abbrev cX8_allOf : ByteArray := prog_10_method_38_code
def yX8_allOf : MethodName := ⟨RX8, "allOf", "()V"⟩
abbrev cX8_term : ByteArray := prog_10_method_39_code
def yX8_term : MethodName := ⟨RX8, "term", "()V"⟩
abbrev cX8_readClause : ByteArray := prog_10_method_40_code
def yX8_readClause : MethodName := ⟨RX8, "readClause", "()V"⟩
abbrev cX8_isMore : ByteArray := prog_10_method_41_code
def yX8_isMore : MethodName := ⟨RX8, "isMore", "()Z"⟩
abbrev cX8_law : ByteArray := prog_10_method_42_code
def yX8_law : MethodName := ⟨RX8, "law", "(I)I"⟩
abbrev cX8_fault : ByteArray := prog_10_method_43_code
def yX8_fault : MethodName := ⟨RX8, "fault", "()I"⟩
abbrev cX8_isLawOrNone : ByteArray := prog_10_method_44_code
def yX8_isLawOrNone : MethodName := ⟨RX8, "isLawOrNone", "(I)Z"⟩
abbrev cX8_force : ByteArray := prog_10_method_45_code
def yX8_force : MethodName := ⟨RX8, "force", "(I)I"⟩
abbrev cX8_asked : ByteArray := prog_10_method_46_code
def yX8_asked : MethodName := ⟨RX8, "asked", "(I)I"⟩
abbrev cX8_valueOf : ByteArray := prog_10_method_47_code
def yX8_valueOf : MethodName := ⟨RX8, "valueOf", "(II)I"⟩
abbrev cX8_two : ByteArray := prog_10_method_48_code
def yX8_two : MethodName := ⟨RX8, "two", "(III)I"⟩
abbrev cX8_bounded : ByteArray := prog_10_method_49_code
def yX8_bounded : MethodName := ⟨RX8, "bounded", "(I)I"⟩
abbrev cX8_told : ByteArray := prog_10_method_50_code
def yX8_told : MethodName := ⟨RX8, "told", "(II)I"⟩
abbrev cX8_asks : ByteArray := prog_10_method_51_code
def yX8_asks : MethodName := ⟨RX8, "asks", "(III)V"⟩
abbrev cX8_holdsNow : ByteArray := prog_10_method_52_code
def yX8_holdsNow : MethodName := ⟨RX8, "holdsNow", "(II)Z"⟩
abbrev cX8_concept : ByteArray := prog_10_method_53_code
def yX8_concept : MethodName := ⟨RX8, "concept", "(II)I"⟩
abbrev cX8_orderOf : ByteArray := prog_10_method_54_code
def yX8_orderOf : MethodName := ⟨RX8, "orderOf", "(I)I"⟩
abbrev cX8_signOf : ByteArray := prog_10_method_55_code
def yX8_signOf : MethodName := ⟨RX8, "signOf", "(II)I"⟩
abbrev cX8_isWorn : ByteArray := prog_10_method_56_code
def yX8_isWorn : MethodName := ⟨RX8, "isWorn", "(II)Z"⟩
abbrev cX8_seenAs : ByteArray := prog_10_method_57_code
def yX8_seenAs : MethodName := ⟨RX8, "seenAs", "(II)I"⟩
abbrev cX8_weightSeen : ByteArray := prog_10_method_58_code
def yX8_weightSeen : MethodName := ⟨RX8, "weightSeen", "(IIII)I"⟩
abbrev cX8_saysIt : ByteArray := prog_10_method_59_code
def yX8_saysIt : MethodName := ⟨RX8, "saysIt", "(II)V"⟩
abbrev cX8_learns : ByteArray := prog_10_method_60_code
def yX8_learns : MethodName := ⟨RX8, "learns", "(II)V"⟩
abbrev cX8_talks : ByteArray := prog_10_method_61_code
def yX8_talks : MethodName := ⟨RX8, "talks", "(II)V"⟩
abbrev cX8_tells : ByteArray := prog_10_method_62_code
def yX8_tells : MethodName := ⟨RX8, "tells", "(II)V"⟩
abbrev cX8_talk : ByteArray := prog_10_method_63_code
def yX8_talk : MethodName := ⟨RX8, "talk", "(IIIII)I"⟩
abbrev cX8_findHere : ByteArray := prog_10_method_64_code
def yX8_findHere : MethodName := ⟨RX8, "findHere", "(I)V"⟩
abbrev cX8_draws : ByteArray := prog_10_method_65_code
def yX8_draws : MethodName := ⟨RX8, "draws", "()V"⟩
abbrev cX8_run : ByteArray := prog_10_method_66_code
def yX8_run : MethodName := ⟨RX8, "run", "(II)I"⟩
abbrev cX8_note : ByteArray := prog_10_method_67_code
def yX8_note : MethodName := ⟨RX8, "note", "(II)I"⟩
abbrev cX8_isKind : ByteArray := prog_10_method_68_code
def yX8_isKind : MethodName := ⟨RX8, "isKind", "(I)Z"⟩
abbrev cX8_share : ByteArray := prog_10_method_69_code
def yX8_share : MethodName := ⟨RX8, "share", "(IIIZ)I"⟩
abbrev cX8_heldIn : ByteArray := prog_10_method_70_code
def yX8_heldIn : MethodName := ⟨RX8, "heldIn", "(II)I"⟩
abbrev cX8_held : ByteArray := prog_10_method_71_code
def yX8_held : MethodName := ⟨RX8, "held", "(II)I"⟩
abbrev cX8_first : ByteArray := prog_10_method_72_code
def yX8_first : MethodName := ⟨RX8, "first", "(II)I"⟩
abbrev cX8_back : ByteArray := prog_10_method_73_code
def yX8_back : MethodName := ⟨RX8, "back", "(III)I"⟩
abbrev cX8_uses : ByteArray := prog_10_method_74_code
def yX8_uses : MethodName := ⟨RX8, "uses", "(II)I"⟩
abbrev cX8_seen : ByteArray := prog_10_method_75_code
def yX8_seen : MethodName := ⟨RX8, "seen", "(II)I"⟩
abbrev cX8_ends : ByteArray := prog_10_method_76_code
def yX8_ends : MethodName := ⟨RX8, "ends", "()V"⟩
abbrev cX8_film : ByteArray := prog_10_method_77_code
def yX8_film : MethodName := ⟨RX8, "film", "()I"⟩
abbrev cX8_end : ByteArray := prog_10_method_78_code
def yX8_end : MethodName := ⟨RX8, "end", "()I"⟩
abbrev cX8_isFilm : ByteArray := prog_10_method_79_code
def yX8_isFilm : MethodName := ⟨RX8, "isFilm", "(I)Z"⟩
abbrev cX8_gap : ByteArray := prog_10_method_80_code
def yX8_gap : MethodName := ⟨RX8, "gap", "(II)I"⟩
abbrev cX8_fitting : ByteArray := prog_10_method_81_code
def yX8_fitting : MethodName := ⟨RX8, "fitting", "(II)I"⟩
abbrev cX8_fits : ByteArray := prog_10_method_82_code
def yX8_fits : MethodName := ⟨RX8, "fits", "(II)I"⟩
abbrev cX8_read : ByteArray := prog_10_method_83_code
def yX8_read : MethodName := ⟨RX8, "read", "()I"⟩
abbrev cX8_begins : ByteArray := prog_10_method_84_code
def yX8_begins : MethodName := ⟨RX8, "begins", "()V"⟩
abbrev cX8_tries : ByteArray := prog_10_method_85_code
def yX8_tries : MethodName := ⟨RX8, "tries", "(II)V"⟩
abbrev cX8_tryWith : ByteArray := prog_10_method_86_code
def yX8_tryWith : MethodName := ⟨RX8, "tryWith", "(IIII)I"⟩
abbrev cX8_trial : ByteArray := prog_10_method_87_code
def yX8_trial : MethodName := ⟨RX8, "trial", "(IIII)I"⟩
abbrev cX8_fewest : ByteArray := prog_10_method_88_code
def yX8_fewest : MethodName := ⟨RX8, "fewest", "(IIII)I"⟩
abbrev cX8_needed : ByteArray := prog_10_method_89_code
def yX8_needed : MethodName := ⟨RX8, "needed", "(III)I"⟩
abbrev cX8_greatest : ByteArray := prog_10_method_90_code
def yX8_greatest : MethodName := ⟨RX8, "greatest", "(II)I"⟩
abbrev cX8_unlike : ByteArray := prog_10_method_91_code
def yX8_unlike : MethodName := ⟨RX8, "unlike", "(II)I"⟩
abbrev cX8_unlikeOf : ByteArray := prog_10_method_92_code
def yX8_unlikeOf : MethodName := ⟨RX8, "unlikeOf", "(II)I"⟩
abbrev cX8_meets : ByteArray := prog_10_method_93_code
def yX8_meets : MethodName := ⟨RX8, "meets", "(II)I"⟩
abbrev cX8_heaviest : ByteArray := prog_10_method_94_code
def yX8_heaviest : MethodName := ⟨RX8, "heaviest", "(II)I"⟩
abbrev cX8_plain : ByteArray := prog_10_method_95_code
def yX8_plain : MethodName := ⟨RX8, "plain", "(I)I"⟩
abbrev cX8_word_ : ByteArray := prog_10_method_96_code
def yX8_word_ : MethodName := ⟨RX8, "word", "(II)I"⟩
abbrev cX8_blurred : ByteArray := prog_10_method_97_code
def yX8_blurred : MethodName := ⟨RX8, "blurred", "(II)I"⟩
abbrev cX8_nearest : ByteArray := prog_10_method_98_code
def yX8_nearest : MethodName := ⟨RX8, "nearest", "(I)I"⟩
abbrev cX8_since : ByteArray := prog_10_method_99_code
def yX8_since : MethodName := ⟨RX8, "since", "(II)I"⟩
abbrev cX8_teacherOf : ByteArray := prog_10_method_100_code
def yX8_teacherOf : MethodName := ⟨RX8, "teacherOf", "(II)I"⟩
abbrev cX8_taught : ByteArray := prog_10_method_101_code
def yX8_taught : MethodName := ⟨RX8, "taught", "(II)I"⟩
abbrev cX8_root : ByteArray := prog_10_method_102_code
def yX8_root : MethodName := ⟨RX8, "root", "(II)I"⟩
abbrev cX8_isRun : ByteArray := prog_10_method_103_code
def yX8_isRun : MethodName := ⟨RX8, "isRun", "(III)Z"⟩
abbrev cX8_untaught : ByteArray := prog_10_method_104_code
def yX8_untaught : MethodName := ⟨RX8, "untaught", "(III)I"⟩
abbrev cX8_odds : ByteArray := prog_10_method_105_code
def yX8_odds : MethodName := ⟨RX8, "odds", "(IIII)I"⟩
abbrev cX8_right : ByteArray := prog_10_method_106_code
def yX8_right : MethodName := ⟨RX8, "right", "(III)I"⟩
abbrev cX8_image : ByteArray := prog_10_method_107_code
def yX8_image : MethodName := ⟨RX8, "image", "()I"⟩
abbrev cX8_restore : ByteArray := prog_10_method_108_code
def yX8_restore : MethodName := ⟨RX8, "restore", "()I"⟩
abbrev cX8_count : ByteArray := prog_10_method_109_code
def yX8_count : MethodName := ⟨RX8, "count", "(I)I"⟩
def RJ9 : String := "java/lang/Math"
def TJ9 : u_T := fun k => match k with
  | _ => ("", "", "", false)
def tyJ9 : Nat → FieldType := fun k => match k with
  | _ => .int
theorem nmJ9 : ∀ a, a < 0 → ∀ b, b < 0 → a ≠ b → (TJ9 a).2.1 ≠ (TJ9 b).2.1 := by decide +kernel
theorem tyJ9_ok : ∀ k, k < 0 → parseFieldDescriptor (TJ9 k).2.2.1 = some (tyJ9 k) := by decide +kernel
abbrev cJ9_max_7cf53 : ByteArray := prog_15_method_65_code
def yJ9_max_7cf53 : MethodName := ⟨RJ9, "max", "(II)I"⟩
abbrev cJ9_min_7cf53 : ByteArray := prog_15_method_69_code
def yJ9_min_7cf53 : MethodName := ⟨RJ9, "min", "(II)I"⟩
def RJ0 : String := "java/lang/String"
def TJ0 : u_T := fun k => match k with
  | _ => ("", "", "", false)
def tyJ0 : Nat → FieldType := fun k => match k with
  | _ => .int
theorem nmJ0 : ∀ a, a < 0 → ∀ b, b < 0 → a ≠ b → (TJ0 a).2.1 ≠ (TJ0 b).2.1 := by decide +kernel
theorem tyJ0_ok : ∀ k, k < 0 → parseFieldDescriptor (TJ0 k).2.2.1 = some (tyJ0 k) := by decide +kernel
abbrev cJ0_length_8abf5 : ByteArray := prog_17_method_54_code
def yJ0_length_8abf5 : MethodName := ⟨RJ0, "length", "()I"⟩
abbrev cJ0_charAt_5068e : ByteArray := prog_17_method_56_code
def yJ0_charAt_5068e : MethodName := ⟨RJ0, "charAt", "(I)C"⟩
abbrev cJ0_coder_7d493 : ByteArray := prog_17_method_152_code
def yJ0_coder_7d493 : MethodName := ⟨RJ0, "coder", "()B"⟩
abbrev cJ0_isLatin1_aae02 : ByteArray := prog_17_method_154_code
def yJ0_isLatin1_aae02 : MethodName := ⟨RJ0, "isLatin1", "()Z"⟩
abbrev cJ0_checkIndex_df160 : ByteArray := prog_17_method_155_code
def yJ0_checkIndex_df160 : MethodName := ⟨RJ0, "checkIndex", "(II)V"⟩
def RJ1 : String := "java/lang/StringLatin1"
def TJ1 : u_T := fun k => match k with
  | _ => ("", "", "", false)
def tyJ1 : Nat → FieldType := fun k => match k with
  | _ => .int
theorem nmJ1 : ∀ a, a < 0 → ∀ b, b < 0 → a ≠ b → (TJ1 a).2.1 ≠ (TJ1 b).2.1 := by decide +kernel
theorem tyJ1_ok : ∀ k, k < 0 → parseFieldDescriptor (TJ1 k).2.2.1 = some (tyJ1 k) := by decide +kernel
abbrev cJ1_charAt_3b067 : ByteArray := prog_18_method_2_code
def yJ1_charAt_3b067 : MethodName := ⟨RJ1, "charAt", "([BI)C"⟩
def RJ2 : String := "java/lang/StringUTF16"
def TJ2 : u_T := fun k => match k with
  | _ => ("", "", "", false)
def tyJ2 : Nat → FieldType := fun k => match k with
  | _ => .int
theorem nmJ2 : ∀ a, a < 0 → ∀ b, b < 0 → a ≠ b → (TJ2 a).2.1 ≠ (TJ2 b).2.1 := by decide +kernel
theorem tyJ2_ok : ∀ k, k < 0 → parseFieldDescriptor (TJ2 k).2.2.1 = some (tyJ2 k) := by decide +kernel
abbrev cJ2_getChar_3b067 : ByteArray := prog_19_method_5_code
def yJ2_getChar_3b067 : MethodName := ⟨RJ2, "getChar", "([BI)C"⟩
abbrev cJ2_length_9d52b : ByteArray := prog_19_method_6_code
def yJ2_length_9d52b : MethodName := ⟨RJ2, "length", "([B)I"⟩
abbrev cJ2_charAt_3b067 : ByteArray := prog_19_method_83_code
def yJ2_charAt_3b067 : MethodName := ⟨RJ2, "charAt", "([BI)C"⟩
abbrev cJ2_checkIndex_2214a : ByteArray := prog_19_method_91_code
def yJ2_checkIndex_2214a : MethodName := ⟨RJ2, "checkIndex", "(I[B)V"⟩
def RJ10 : String := "java/lang/System"
def TJ10 : u_T := fun k => match k with
  | _ => ("", "", "", false)
def tyJ10 : Nat → FieldType := fun k => match k with
  | _ => .int
theorem nmJ10 : ∀ a, a < 0 → ∀ b, b < 0 → a ≠ b → (TJ10 a).2.1 ≠ (TJ10 b).2.1 := by decide +kernel
theorem tyJ10_ok : ∀ k, k < 0 → parseFieldDescriptor (TJ10 k).2.2.1 = some (tyJ10 k) := by decide +kernel
def RJ3 : String := "jdk/internal/util/Preconditions"
def TJ3 : u_T := fun k => match k with
  | _ => ("", "", "", false)
def tyJ3 : Nat → FieldType := fun k => match k with
  | _ => .int
theorem nmJ3 : ∀ a, a < 0 → ∀ b, b < 0 → a ≠ b → (TJ3 a).2.1 ≠ (TJ3 b).2.1 := by decide +kernel
theorem tyJ3_ok : ∀ k, k < 0 → parseFieldDescriptor (TJ3 k).2.2.1 = some (tyJ3 k) := by decide +kernel
abbrev cJ3_checkIndex_8e157 : ByteArray := prog_23_method_11_code
def yJ3_checkIndex_8e157 : MethodName := ⟨RJ3, "checkIndex", "(IILjava/util/function/BiFunction;)I"⟩
def RL : String := "YardTalkLaw"
abbrev cL_come : ByteArray := method_3_code
def yL_come : MethodName := ⟨RL, "come", "(LYardTalk;IIZ[J)I"⟩
abbrev cL_leave : ByteArray := method_4_code
def yL_leave : MethodName := ⟨RL, "leave", "(LYardTalk;I[J)I"⟩
abbrev cL_visit : ByteArray := method_5_code
def yL_visit : MethodName := ⟨RL, "visit", "(LYardTalk;II[J)I"⟩
abbrev cL_of : ByteArray := method_6_code
def yL_of : MethodName := ⟨RL, "of", "(LYardTalk;II[J)I"⟩
abbrev cL_sign : ByteArray := method_7_code
def yL_sign : MethodName := ⟨RL, "sign", "(LYardTalk;III[J)I"⟩
abbrev cL_order : ByteArray := method_8_code
def yL_order : MethodName := ⟨RL, "order", "(LYardTalk;II[J)I"⟩
abbrev cL_holds : ByteArray := method_9_code
def yL_holds : MethodName := ⟨RL, "holds", "(LYardTalk;II[J)I"⟩
abbrev cL_set : ByteArray := method_10_code
def yL_set : MethodName := ⟨RL, "set", "(LYardTalk;II[J)I"⟩
abbrev cL_years : ByteArray := method_11_code
def yL_years : MethodName := ⟨RL, "years", "(LYardTalk;I[J)I"⟩
abbrev cL_law : ByteArray := method_12_code
def yL_law : MethodName := ⟨RL, "law", "(LYardTalk;I[J)I"⟩
abbrev cL_force : ByteArray := method_13_code
def yL_force : MethodName := ⟨RL, "force", "(LYardTalk;I[J)I"⟩
abbrev cL_talk : ByteArray := method_14_code
def yL_talk : MethodName := ⟨RL, "talk", "(LYardTalk;IIIII[J)I"⟩
abbrev cL_run : ByteArray := method_15_code
def yL_run : MethodName := ⟨RL, "run", "(LYardTalk;II[J)I"⟩
abbrev cL_note : ByteArray := method_16_code
def yL_note : MethodName := ⟨RL, "note", "(LYardTalk;II[J)I"⟩
abbrev cL_share : ByteArray := method_17_code
def yL_share : MethodName := ⟨RL, "share", "(LYardTalk;IIIZ[J)I"⟩
abbrev cL_held : ByteArray := method_18_code
def yL_held : MethodName := ⟨RL, "held", "(LYardTalk;II[J)I"⟩
abbrev cL_first : ByteArray := method_19_code
def yL_first : MethodName := ⟨RL, "first", "(LYardTalk;II[J)I"⟩
abbrev cL_back : ByteArray := method_20_code
def yL_back : MethodName := ⟨RL, "back", "(LYardTalk;III[J)I"⟩
abbrev cL_uses : ByteArray := method_21_code
def yL_uses : MethodName := ⟨RL, "uses", "(LYardTalk;II[J)I"⟩
abbrev cL_seen : ByteArray := method_22_code
def yL_seen : MethodName := ⟨RL, "seen", "(LYardTalk;II[J)I"⟩
abbrev cL_gap : ByteArray := method_23_code
def yL_gap : MethodName := ⟨RL, "gap", "(LYardTalk;II[J)I"⟩
abbrev cL_fits : ByteArray := method_24_code
def yL_fits : MethodName := ⟨RL, "fits", "(LYardTalk;II[J)I"⟩
abbrev cL_trial : ByteArray := method_25_code
def yL_trial : MethodName := ⟨RL, "trial", "(LYardTalk;IIII[J)I"⟩
abbrev cL_fewest : ByteArray := method_26_code
def yL_fewest : MethodName := ⟨RL, "fewest", "(LYardTalk;IIII[J)I"⟩
abbrev cL_needed : ByteArray := method_27_code
def yL_needed : MethodName := ⟨RL, "needed", "(LYardTalk;III[J)I"⟩
abbrev cL_unlike : ByteArray := method_28_code
def yL_unlike : MethodName := ⟨RL, "unlike", "(LYardTalk;II[J)I"⟩
abbrev cL_meets : ByteArray := method_29_code
def yL_meets : MethodName := ⟨RL, "meets", "(LYardTalk;II[J)I"⟩
abbrev cL_plain : ByteArray := method_30_code
def yL_plain : MethodName := ⟨RL, "plain", "(LYardTalk;I[J)I"⟩
abbrev cL_word : ByteArray := method_31_code
def yL_word : MethodName := ⟨RL, "word", "(LYardTalk;II[J)I"⟩
abbrev cL_blurred : ByteArray := method_32_code
def yL_blurred : MethodName := ⟨RL, "blurred", "(LYardTalk;II[J)I"⟩
abbrev cL_nearest : ByteArray := method_33_code
def yL_nearest : MethodName := ⟨RL, "nearest", "(LYardTalk;I[J)I"⟩
abbrev cL_since : ByteArray := method_34_code
def yL_since : MethodName := ⟨RL, "since", "(LYardTalk;II[J)I"⟩
abbrev cL_taught : ByteArray := method_35_code
def yL_taught : MethodName := ⟨RL, "taught", "(LYardTalk;II[J)I"⟩
abbrev cL_root : ByteArray := method_36_code
def yL_root : MethodName := ⟨RL, "root", "(LYardTalk;II[J)I"⟩
abbrev cL_untaught : ByteArray := method_37_code
def yL_untaught : MethodName := ⟨RL, "untaught", "(LYardTalk;III[J)I"⟩
abbrev cL_odds : ByteArray := method_38_code
def yL_odds : MethodName := ⟨RL, "odds", "(LYardTalk;IIII[J)I"⟩
abbrev cL_right : ByteArray := method_39_code
def yL_right : MethodName := ⟨RL, "right", "(LYardTalk;III[J)I"⟩
abbrev cL_law_ : ByteArray := code
def yL_law_ : MethodName := ⟨RL, "law", "([I)Z"⟩
abbrev vwCl : List vw_C := [(RX0, TX0, 4), (RX1, TX1, 7), (RX2, TX2, 9), (RX3, TX3, 5), (RX4, TX4, 4), (RX5, TX5, 10), (RX6, TX6, 17), (RX7, TX7, 18), (RX8, TX8, 56)]
/-- the words that stay true as the machine warms -/
def gw : List Cond := lw_tbl.filter goodWord
theorem gw_good : GoodIn gw gw := fun w h => ⟨h, good_of_word (List.mem_filter.mp h).2⟩
theorem gw_t {w : Cond} (i : Nat) (h : tables_1[i]? = some w) (hg : goodWord w = true) : w ∈ gw := List.mem_filter.mpr ⟨List.mem_append_right _ (List.mem_of_getElem? h), hg⟩
theorem gw_p {w : Cond} (i : Nat) (h : (k2_sels lw_privs)[i]? = some w) (hg : goodWord w = true) : w ∈ gw := List.mem_filter.mpr ⟨List.mem_append_left _ (List.mem_of_getElem? h), hg⟩
end
section
/-! THE CORE: a memory of ints (cell, slot), a layout of the cells, and the judgement J over the kit's W. -/
abbrev Mm : Type := Nat → Nat → Int32
def u2 (g : Mm) (a k : Nat) (v : Int32) : Mm := fun b j => if b = a ∧ j = k then v else g b j
/-- a cell's layout: its class (by number) or its elements' type; how many slots; the kind of each: 0 int, 1 long, 2 a reference that moves (0: null), n + 3 the cell n for ever -/
abbrev Ly : Type := (Nat ⊕ FieldType) × Nat × (Nat → Nat)
/-- class numbers and slots, the array classes, the address of each cell, the first address that may be written -/
abbrev Ey : Type := va_G × (FieldType → ClassId) × (Nat → Nat) × Nat
abbrev Ey.D (E : Ey) : va_G := E.1
abbrev Ey.cA (E : Ey) : FieldType → ClassId := E.2.1
abbrev Ey.ad (E : Ey) : Nat → Nat := E.2.2.1
abbrev Ey.N0 (E : Ey) : Nat := E.2.2.2
abbrev Ey.A (E : Ey) : Nat → Prop := fun q => E.2.2.2 ≤ q
def ab (k : Nat) (x : Int32) : Value := match k with
  | 0 => .int x
  | 1 => .long x.toInt64
  | 2 => if x = 0 then .null else .ref x.toNatClampNeg
  | n + 3 => .ref n
def mv (ad : Nat → Nat) (v : Value) : Value := match v with
  | .ref a => .ref (ad a)
  | w => w
def ce (E : Ey) (q : Ly) (r : Nat → Int32) : va_E := match q.1 with
  | .inl ci => .inr (ci, (List.range q.2.1).map (fun k => mv E.ad (ab (q.2.2 k) (r k))))
  | .inr ty => .inl (E.cA ty, q.2.1, match q.2.2 0 with
    | 0 => .inl r
    | 1 => .inr (.inl fun j => (r j).toInt64)
    | _ => .inr (.inr (.inr (.inr fun j => some (E.ad (q.2.2 j - 3))))))
def wl (E : Ey) (L : Nat → Ly) (N : Nat) (g : Mm) : va_W := (List.range N).map (fun a => (E.ad a, ce E (L a) (g a)))
theorem wl_at {E : Ey} {L : Nat → Ly} {N : Nat} {g : Mm} {a : Nat} (h : a < N) : (wl E L N g)[a]? = some (E.ad a, ce E (L a) (g a)) := by simp [wl, h]
theorem wl_set {E : Ey} {L : Nat → Ly} {N : Nat} {g g' : Mm} {a : Nat} (ho : ∀ b, b ≠ a → g' b = g b) : (wl E L N g).set a (E.ad a, ce E (L a) (g' a)) = wl E L N g' := by
  apply List.ext_getElem?
  intro i
  rw [List.getElem?_set]
  by_cases hi : i < N
  · by_cases e : a = i
    · subst e; simp [wl, hi]
    · rw [if_neg e, wl_at hi, wl_at hi, ho i (fun h => e h.symm)]
  · by_cases e : a = i
    · subst e; simp [wl, hi]
    · rw [if_neg e]; simp [wl, hi]
theorem u2_ne {g : Mm} {a k : Nat} {v : Int32} (b : Nat) (h : b ≠ a) : u2 g a k v b = g b := by funext j; simp [u2, h]
theorem u2_row {g : Mm} {a k : Nat} {v : Int32} : u2 g a k v a = upd (g a) k v := by funext j; simp [u2, upd]
/-- the types of the arrays -/
abbrev tyl (E : Ey) : List (ClassId × FieldType) := [(E.cA .int, .int), (E.cA .boolean, .boolean), (E.cA .long, .long), (E.cA (.object "YardTalk$World"), .object "YardTalk$World"), (E.cA (.object "YardTalk$Film"), .object "YardTalk$Film"), (E.cA (.object "YardTalk$Law"), .object "YardTalk$Law")]
/-- the cells lie apart, behind N0 -/
def Eo (E : Ey) (N : Nat) : Prop := (∀ i j : Nat, i < N → j < N → E.ad i = E.ad j → i = j) ∧ ∀ i : Nat, i < N → E.N0 ≤ E.ad i
theorem wl_D {E : Ey} {L : Nat → Ly} {N : Nat} {g : Mm} (h : Eo E N) : va_D E.A (wl E L N g) := by
  have key : ∀ (k : Nat) (q : Nat × va_E), (wl E L N g)[k]? = some q → k < N ∧ q.1 = E.ad k := by
    intro k q hq
    by_cases hk : k < N
    · rw [wl_at hk] at hq; cases hq; exact ⟨hk, rfl⟩
    · simp [wl, hk] at hq
  refine ⟨fun i j p q hp hq e => ?_, fun k q hq => ?_⟩
  · obtain ⟨h1, h2⟩ := key i p hp
    obtain ⟨h3, h4⟩ := key j q hq
    exact h.1 i j h1 h3 (by rw [← h2, ← h4]; exact e)
  · obtain ⟨h1, h2⟩ := key k q hq
    show E.N0 ≤ q.1
    rw [h2]; exact h.2 k h1
def zRO (j : Nat) : Int32 := ([0, 1, 2, 0, 2, 1, 1, 0, 2, 1, 2, 0, 2, 0, 1, 2, 1, 0] : List Int32).getD j 0
def zWI (j : Nat) : Int32 := ([10, 10, 2, 100] : List Int32).getD j 0
/-- the cells that are only read: the static rows (cells 1001, 1002, 1003), the two statics of Throwable, the texts of the reader's words -/
def wdLen : List Nat := [5, 5, 4, 4, 2, 5, 4, 3, 5, 5, 5, 6, 5, 2, 3, 3]
def wdByt : List (List Int32) := [[108, 101, 97, 114, 110], [111, 114, 100, 101, 114], [108, 111, 115, 101], [109, 117, 115, 116], [105, 102], [108, 101, 97, 115, 116], [109, 111, 115, 116], [97, 103, 101], [116, 104, 101, 114, 101], [114, 105, 103, 104, 116], [115, 104, 111, 119, 110], [119, 101, 105, 103, 104, 116], [116, 97, 108, 107, 115], [111, 114], [97, 110, 100], [110, 111, 116]]
def Ro (E : Ey) (U : State) (H : Heap) : Prop :=
  (va_Z "YardTalk" "ROLES" "[I" (.ref (E.ad 1001)) E.A U H ∧ va_T .int (E.ad 1001) 18 (fun j => .int (zRO j)) E.A U H) ∧
  (va_Z "YardTalk$Ruling" "WITHOUT" "[I" (.ref (E.ad 1002)) E.A U H ∧ va_T .int (E.ad 1002) 4 (fun j => .int (zWI j)) E.A U H) ∧
  (va_Z "YardTalkModel" "PLACES" "[I" (.ref (E.ad 1003)) E.A U H ∧ va_T .int (E.ad 1003) 18 (fun j => .int (zRO j)) E.A U H) ∧
  (vx_Zq Bundle.tN "UNASSIGNED_STACK" Bundle.steD E.A U H ∧ vx_Zq Bundle.tN "SUPPRESSED_SENTINEL" Bundle.listD E.A U H) ∧
  vk_S 16 wdLen wdByt (fun i => E.ad (1100 + i)) (fun i => E.ad (1200 + i)) E.A U H
theorem Ro.moved {E : Ey} {u U : State} {H : Heap} (hvm : u.vm.Alike U.vm) (h : Ro E u H) : Ro E U H :=
  ⟨⟨h.1.1.moved hvm, h.1.2.moved hvm⟩, ⟨h.2.1.1.moved hvm, h.2.1.2.moved hvm⟩, ⟨h.2.2.1.1.moved hvm, h.2.2.1.2.moved hvm⟩, ⟨h.2.2.2.1.1.moved hvm, h.2.2.2.1.2.moved hvm⟩, h.2.2.2.2.moved hvm⟩
theorem Ro.kept {E : Ey} {U : State} {H H1 : Heap} (h : Ro E U H) (hq : ∀ a : Nat, a < H.size → ¬ E.A a → H1[a]? = H[a]?) : Ro E U H1 :=
  ⟨⟨h.1.1.kept hq, h.1.2.kept hq⟩, ⟨h.2.1.1.kept hq, h.2.1.2.kept hq⟩, ⟨h.2.2.1.1.kept hq, h.2.2.1.2.kept hq⟩, ⟨h.2.2.2.1.1.kept hq, h.2.2.2.1.2.kept hq⟩, h.2.2.2.2.kept hq⟩
/-- the world: heap H holds the memory g by the layout L of N cells; what is only read is there -/
def Wd (E : Ey) (L : Nat → Ly) (N : Nat) (g : Mm) (U : State) (H : Heap) : Prop :=
  va_P E.D vwCl (wl E L N g) H ∧ va_K E.D vwCl (tyl E) U ∧ Eo E N ∧ E.N0 ≤ H.size ∧ Ro E U H
theorem Wd.moved {E : Ey} {L : Nat → Ly} {N : Nat} {g : Mm} {u U : State} {H : Heap} (hvm : u.vm.Alike U.vm) (h : Wd E L N g u H) : Wd E L N g U H :=
  ⟨h.1, h.2.1.moved hvm, h.2.2.1, h.2.2.2.1, h.2.2.2.2.moved hvm⟩
/-- what the tables hold of calls among nest mates, the texts, and of the classes of exceptions -/
def nsL : List (String × Nat × MethodName × String) := [("YardTalk", 9, ⟨"YardTalk$World", "<init>", "()V"⟩, "YardTalk"), ("YardTalk", 44, ⟨"YardTalk$Speech", "<init>", "()V"⟩, "YardTalk"), ("YardTalk", 51, ⟨"YardTalk$Ruling", "<init>", "()V"⟩, "YardTalk"), ("YardTalk", 58, ⟨"YardTalk$LawReader", "<init>", "()V"⟩, "YardTalk"), ("YardTalk", 92, ⟨"YardTalk$Film", "<init>", "()V"⟩, "YardTalk"), ("YardTalk$Film", 11, ⟨"YardTalk$World", "<init>", "()V"⟩, "YardTalk"), ("YardTalk", 93, ⟨"YardTalk$Law", "<init>", "()V"⟩, "YardTalk"), ("YardTalk$Speech", 89, ⟨"YardTalk", "roleAt", "(II)I"⟩, "YardTalk"), ("YardTalk$Speech", 92, ⟨"YardTalk", "conceptOf", "(II)I"⟩, "YardTalk"), ("YardTalk$World", 83, ⟨"YardTalk", "signIndex", "(III)I"⟩, "YardTalk"), ("YardTalk$Speech", 127, ⟨"YardTalk", "signIndex", "(III)I"⟩, "YardTalk"), ("YardTalk$Ruling", 74, ⟨"YardTalk", "keepInBounds", "(I)I"⟩, "YardTalk"), ("YardTalk$World", 109, ⟨"YardTalk", "keepInBounds", "(I)I"⟩, "YardTalk")]
def srL : List (String × Nat × String × Nat) := [("YardTalk", 375, "no such yard", 1300), ("YardTalk", 109, "no such age", 1301), ("YardTalk", 368, "no such child", 1302), ("YardTalk", 146, "no such what", 1303), ("YardTalk", 377, "no such concept", 1304), ("YardTalk", 379, "no such sign", 1305), ("YardTalk", 381, "no such order", 1306), ("YardTalk", 180, "no such setting", 1307), ("YardTalk", 182, "no such number of years", 1308), ("YardTalk", 189, "beyond the last year", 1309), ("YardTalk", 195, "the tape is shorter", 1310), ("YardTalk$LawReader", 111, "learn", 1100), ("YardTalk$LawReader", 113, "order", 1101), ("YardTalk$LawReader", 115, "lose", 1102), ("YardTalk$LawReader", 117, "must", 1103), ("YardTalk$LawReader", 132, "least", 1105), ("YardTalk$LawReader", 138, "most", 1106), ("YardTalk$LawReader", 143, "age", 1107), ("YardTalk$LawReader", 145, "there", 1108), ("YardTalk$LawReader", 147, "right", 1109), ("YardTalk$LawReader", 149, "shown", 1110), ("YardTalk$LawReader", 151, "weight", 1111), ("YardTalk$LawReader", 153, "talks", 1112), ("YardTalk$LawReader", 100, "if", 1104), ("YardTalk$LawReader", 165, "not", 1115), ("YardTalk$LawReader", 163, "and", 1114), ("YardTalk$LawReader", 158, "or", 1113), ("YardTalk", 371, "no such law", 1311), ("YardTalk", 212, "one child alone, or no such meaning", 1312), ("YardTalk", 385, "no such number of talks", 1313), ("YardTalk", 245, "no such talk", 1314), ("YardTalk", 383, "no such kind", 1315), ("YardTalk", 373, "no such film", 1316), ("YardTalk", 281, "no such talk of the film", 1317), ("YardTalk", 310, "no such hundredths", 1318), ("YardTalk", 325, "one child alone", 1319), ("YardTalk", 357, "no such number of trials", 1320), ("YardTalk", 359, "from is above to", 1321)]
def csL : List String := ["java/lang/IllegalArgumentException", "java/util/NoSuchElementException", "java/lang/IllegalStateException", "java/lang/IndexOutOfBoundsException"]
def dcL : List String := ["java/lang/RuntimeException", "java/lang/Exception", "java/lang/Throwable"]
def ncL : List (String × String) := [("java/lang/IllegalArgumentException", "java/util/NoSuchElementException"), ("java/lang/IllegalArgumentException", "java/lang/IndexOutOfBoundsException"), ("java/lang/IllegalStateException", "java/lang/IllegalArgumentException")]
def Vw (E : Ey) (U : State) : Prop := (∀ q ∈ nsL, va_Nw (.methodLinkNest q.1 q.2.1 q.2.2.1 q.2.2.2) U) ∧ (∀ q ∈ srL, vk_R q.1 q.2.1 q.2.2.1 (E.ad q.2.2.2) U) ∧ (∀ q ∈ csL, va_Nw (.castable q q) U) ∧ (∀ q ∈ dcL, va_Nw (.declares ⟨q, "<init>", "(Ljava/lang/String;)V"⟩) U) ∧ ∀ q ∈ ncL, va_Nc q.1 q.2 U
theorem Vw.warm {E : Ey} {s U : State} (hW : s.WarmedH U.vm) (h : Vw E s) : Vw E U := ⟨fun q hq => (h.1 q hq).warmM hW, fun q hq => (h.2.1 q hq).warm hW, fun q hq => (h.2.2.1 q hq).warmC hW, fun q hq => (h.2.2.2.1 q hq).warmD hW, fun q hq => (h.2.2.2.2 q hq).moved hW.alike⟩
theorem Vw.same {E : Ey} {u U : State} (hv : u.vm = U.vm) (h : Vw E u) : Vw E U := ⟨fun q hq => (h.1 q hq).same rfl hv, fun q hq => (h.2.1 q hq).same hv.symm, fun q hq => (h.2.2.1 q hq).same rfl hv, fun q hq => (h.2.2.2.1 q hq).same rfl hv, fun q hq => (h.2.2.2.2 q hq).moved (by rw [hv]; exact Vm.Alike.refl _)⟩
/-- a method's own context -/
abbrev Sx : Type := (Program × Launch × Env × Room × State) × (MethodId × Array Value × List Frame × Method × Code) × (Ey × (Nat → Ly) × Nat) × (State → Prop)
abbrev Sx.p (S : Sx) : Program := S.1.1
abbrev Sx.l (S : Sx) : Launch := S.1.2.1
abbrev Sx.e (S : Sx) : Env := S.1.2.2.1
abbrev Sx.R (S : Sx) : Room := S.1.2.2.2.1
abbrev Sx.s (S : Sx) : State := S.1.2.2.2.2
abbrev Sx.m (S : Sx) : MethodId := S.2.1.1
abbrev Sx.args (S : Sx) : Array Value := S.2.1.2.1
abbrev Sx.below (S : Sx) : List Frame := S.2.1.2.2.1
abbrev Sx.meth (S : Sx) : Method := S.2.1.2.2.2.1
abbrev Sx.c (S : Sx) : Code := S.2.1.2.2.2.2
abbrev Sx.E (S : Sx) : Ey := S.2.2.1.1
abbrev Sx.L (S : Sx) : Nat → Ly := S.2.2.1.2.1
abbrev Sx.N (S : Sx) : Nat := S.2.2.1.2.2
abbrev Sx.Z (S : Sx) : State → Prop := S.2.2.2
/-- a contract's end: an answer and a memory; or what was thrown and a memory -/
def Qx (E : Ey) (L : Nat → Ly) (N : Nat) (Q : Option Value → Mm → Prop) : Array Value → State → Outcome → State → Prop := fun _ _ o t => ∃ (r : Option Value) (g : Mm), o = .returned (r.map (mv E.ad)) ∧ Q r g ∧ Wd E L N g t t.heap
def Xx (E : Ey) (L : Nat → Ly) (N : Nat) (X : String → Mm → Prop) : String → State → State → Prop := fun C _ t => ∃ g : Mm, X C g ∧ Wd E L N g t t.heap
/-- the end that a method with a contract owes -/
def Zx (S : Sx) (mc ms : Nat) (Q : Option Value → Mm → Prop) (X : String → Mm → Prop) : Prop := S.Z = vx_MQ S.below (Qx S.E S.L S.N Q) (Xx S.E S.L S.N X) S.args S.s mc ms S.E.A
/-- the room of a method under which d frames may lie -/
def rmD (d mc ms : Nat) : Room := { frames := d, cells := mc, slots := ms, locals := 64 * d }
/-- A CONTRACT: y, called with the values av at memory g, returns r with memory g', Q r g'; or throws C, X C g' -/
def Ct (l : Launch) (E : Ey) (L : Nat → Ly) (N : Nat) (d mc ms : Nat) (y : MethodName) (av : List Value) (g : Mm) (Q : Option Value → Mm → Prop) (X : String → Mm → Prop) : Prop :=
  l.stackTraces = false → vx_Met l y gw (rmD d mc ms) (fun v U => v = (av.map (mv E.ad)).toArray ∧ Wd E L N g U U.heap ∧ Vw E U) (Qx E L N Q) (Xx E L N X) mc ms E.A
/-- the locals: what is known of each -/
def Lo (ad : Nat → Nat) (la : Array Slot) (ls : List (Option Value)) : Prop := la.size = ls.length ∧ lv_wf la ∧ (∀ (i : Nat) (v : Value), ls[i]? = some (some v) → la[i]? = some (.val (mv ad v))) ∧ ∀ (i : Nat) (v : Value), ls[i]? = some (some v) → v.category = 1
/-- THE JUDGEMENT: at pc, with locals ls, stack st and memory g, k cells of n slots made, the method comes to its end -/
def J (S : Sx) (k n : Nat) (g : Mm) (pc : Nat) (ls : List (Option Value)) (st : List Value) : Prop :=
  ∀ (H : Heap) (locs : List Loc) (la : Array Slot), Wd S.E S.L S.N g S.s H → va_S S.E.A S.s.heap H locs → Lo S.E.ad la ls →
    W S.p S.l S.e S.R S.s S.m S.args S.below S.meth S.c H locs k n S.Z (F0 S.m pc la (st.map (mv S.E.ad)))
/-- the same, with an exception of the class C thrown over the frame -/
def JX (S : Sx) (k n : Nat) (g : Mm) (pc : Nat) (ls : List (Option Value)) (st : List Value) (C : String) : Prop :=
  ∀ (H : Heap) (locs : List Loc) (la : Array Slot) (q : Addr) (ce : Cell), Wd S.E S.L S.N g S.s H → va_S S.E.A S.s.heap H locs → Lo S.E.ad la ls → H[q]? = some ce → ce.vm = .none → S.s.vm.findClass C = some ce.cls →
    vx_W S.p S.l S.e S.R S.s S.m S.args S.below S.meth S.c H locs k n S.Z (F0 S.m pc la (st.map (mv S.E.ad))) q
/-- what is fixed in a method's walk; d: the frames that may lie over it -/
def Kx (S : Sx) (l : Launch) (E : Ey) (L : Nat → Ly) (N : Nat) (cc : ByteArray) (own : String) (nL d : Nat) : Prop :=
  S.p.tables.exec = Jvm.exec ∧ S.c.code = cc ∧ S.s.vm.findClass own = some S.m.cls ∧ (∀ w ∈ gw, w.before S.args S.s = true) ∧ S.c.maxLocals = nL ∧ S.meth.locks = false ∧ Ro S.E S.s S.s.heap ∧ Vw S.E S.s ∧ S.l.stackTraces = false ∧ S.E.N0 ≤ S.s.heap.size ∧ d ≤ S.R.frames ∧ 64 * d ≤ S.R.locals ∧ S.L = L ∧ S.N = N ∧ S.E = E ∧ S.l = l
/-- what a call leaves on the stack -/
def pu (r : Option Value) (st : List Value) : List Value := match r with
  | some v => v :: st
  | none => st
section CoreRows
variable {S : Sx} {k n : Nat} {g : Mm} {pc : Nat} {ls : List (Option Value)} {st : List Value} {cc : ByteArray} {own : String} {nL d : Nat} {l : Launch} {E : Ey} {L : Nat → Ly} {N : Nat}
theorem J.eq {pc' : Nat} {ls' : List (Option Value)} {st' : List Value} {g' : Mm} (h : J S k n g' pc' ls' st') (e1 : g = g') (e2 : pc = pc') (e3 : ls = ls') (e4 : st = st') : J S k n g pc ls st := by subst e1 e2 e3 e4; exact h
theorem Lo.weak {ad : Nat → Nat} {la : Array Slot} {ls ls' : List (Option Value)} (h : Lo ad la ls) (hl : ls'.length = ls.length) (hq : ∀ (i : Nat) (v : Value), ls'[i]? = some (some v) → ls[i]? = some (some v)) : Lo ad la ls' :=
  ⟨by rw [hl]; exact h.1, h.2.1, fun i v q => h.2.2.1 i v (hq i v q), fun i v q => h.2.2.2 i v (hq i v q)⟩
/-- what is forgotten of the locals -/
def lf : List (Option Value) → List (Option Value) → Prop
  | [], [] => True
  | a :: r, b :: t => (b = none ∨ b = a) ∧ lf r t
  | _, _ => False
theorem lf_spec : ∀ (ls ls' : List (Option Value)), lf ls ls' → ls'.length = ls.length ∧ ∀ (i : Nat) (v : Value), ls'[i]? = some (some v) → ls[i]? = some (some v)
  | [], [], _ => ⟨rfl, fun i v h => h⟩
  | a :: r, b :: t, h => by
    obtain ⟨h1, h2⟩ := lf_spec r t h.2
    refine ⟨by simp [h1], fun i v q => ?_⟩
    cases i with
    | zero =>
      rcases h.1 with e | e
      · subst e; simp at q
      · subst e; exact q
    | succ i => exact h2 i v q
  | [], _ :: _, h => h.elim
  | _ :: _, [], h => h.elim
theorem J_weak {ls' : List (Option Value)} (hl : lf ls ls') (h : J S k n g pc ls' st) : J S k n g pc ls st :=
  fun H locs la hW hV hq => h H locs la hW hV (hq.weak (lf_spec ls ls' hl).1 (lf_spec ls ls' hl).2)
/-- the known locals as the kit's list -/
def al (ad : Nat → Nat) (ls : List (Option Value)) : List (Nat × Value) := (List.range ls.length).filterMap (fun i => (ls[i]?.join).map (fun v => (i, mv ad v)))
theorem al_mem {ad : Nat → Nat} {ls : List (Option Value)} {q : Nat × Value} : q ∈ al ad ls ↔ ∃ v, ls[q.1]? = some (some v) ∧ q.2 = mv ad v := by
  unfold al
  rw [List.mem_filterMap]
  constructor
  · rintro ⟨i, hi, h⟩
    cases e : ls[i]? with
    | none => simp [e] at h
    | some o =>
      cases o with
      | none => simp [e] at h
      | some v => simp [e] at h; subst h; exact ⟨v, e, rfl⟩
  · rintro ⟨v, h, h2⟩
    have hlt : q.1 < ls.length := (List.getElem?_eq_some_iff.mp h).1
    exact ⟨q.1, List.mem_range.mpr hlt, by rw [h]; simp [← h2]⟩
theorem mv_cat (ad : Nat → Nat) (v : Value) : (mv ad v).category = v.category := by cases v <;> rfl
theorem Lo.has {ad : Nat → Nat} {la : Array Slot} {ls : List (Option Value)} (h : Lo ad la ls) : lv_has la ls.length (al ad ls) :=
  ⟨h.1, h.2.1, fun q hq => by obtain ⟨v, h1, h2⟩ := al_mem.mp hq; rw [h2]; exact h.2.2.1 _ v h1⟩
theorem Lo.of {ad : Nat → Nat} {la la' : Array Slot} {ls : List (Option Value)} {i : Nat} {v : Value} (h : Lo ad la ls) (hv : v.category = 1) (hi : i < ls.length)
    (h' : lv_has la' ls.length ((i, mv ad v) :: (al ad ls).filter (fun q => !(q.1 == i) && !(q.1 + 1 == i && q.2.category == 2)))) : Lo ad la' (ls.set i (some v)) := by
  refine ⟨by rw [List.length_set]; exact h'.1, h'.2.1, fun j w hj => ?_, fun j w hj => ?_⟩
  · rw [List.getElem?_set] at hj
    by_cases e : i = j
    · subst e
      rw [if_pos rfl] at hj
      simp [hi] at hj
      subst hj
      exact h'.2.2 (i, mv ad v) List.mem_cons_self
    · rw [if_neg e] at hj
      refine h'.2.2 (j, mv ad w) (List.mem_cons_of_mem _ (List.mem_filter.mpr ⟨al_mem.mpr ⟨w, hj, rfl⟩, ?_⟩))
      have hc := h.2.2.2 j w hj
      have e2 : (mv ad w).category = 1 := by rw [mv_cat]; exact hc
      have e3 : (j == i) = false := by simp; exact fun q => e q.symm
      simp [e2, e3]
  · rw [List.getElem?_set] at hj
    by_cases e : i = j
    · subst e
      rw [if_pos rfl] at hj
      simp [hi] at hj
      subst hj; exact hv
    · rw [if_neg e] at hj; exact h.2.2.2 j w hj
theorem J_iadd (hS : Kx S l E L N cc own nL d) {x y : Int32} (hd : decode cc pc = .ok (.iadd, 1)) (h : J S k n g (pc + 1) ls (.int (x + y) :: st)) : J S k n g pc ls (.int y :: .int x :: st) :=
  fun H locs la hW hV hl => lv_iadd hS.1 hS.2.1 hd (h H locs la hW hV hl)
theorem J_isub (hS : Kx S l E L N cc own nL d) {x y : Int32} (hd : decode cc pc = .ok (.isub, 1)) (h : J S k n g (pc + 1) ls (.int (x - y) :: st)) : J S k n g pc ls (.int y :: .int x :: st) :=
  fun H locs la hW hV hl => lv_isub hS.1 hS.2.1 hd (h H locs la hW hV hl)
theorem J_imul (hS : Kx S l E L N cc own nL d) {x y : Int32} (hd : decode cc pc = .ok (.imul, 1)) (h : J S k n g (pc + 1) ls (.int (x * y) :: st)) : J S k n g pc ls (.int y :: .int x :: st) :=
  fun H locs la hW hV hl => lv_imul hS.1 hS.2.1 hd (h H locs la hW hV hl)
theorem J_iand (hS : Kx S l E L N cc own nL d) {x y : Int32} (hd : decode cc pc = .ok (.iand, 1)) (h : J S k n g (pc + 1) ls (.int (x &&& y) :: st)) : J S k n g pc ls (.int y :: .int x :: st) :=
  fun H locs la hW hV hl => lv_iand hS.1 hS.2.1 hd (h H locs la hW hV hl)
theorem J_ior (hS : Kx S l E L N cc own nL d) {x y : Int32} (hd : decode cc pc = .ok (.ior, 1)) (h : J S k n g (pc + 1) ls (.int (x ||| y) :: st)) : J S k n g pc ls (.int y :: .int x :: st) :=
  fun H locs la hW hV hl => lv_ior hS.1 hS.2.1 hd (h H locs la hW hV hl)
theorem J_ixor (hS : Kx S l E L N cc own nL d) {x y : Int32} (hd : decode cc pc = .ok (.ixor, 1)) (h : J S k n g (pc + 1) ls (.int (x ^^^ y) :: st)) : J S k n g pc ls (.int y :: .int x :: st) :=
  fun H locs la hW hV hl => lv_ixor hS.1 hS.2.1 hd (h H locs la hW hV hl)
theorem J_ishl (hS : Kx S l E L N cc own nL d) {x y : Int32} (hd : decode cc pc = .ok (.ishl, 1)) (h : J S k n g (pc + 1) ls (.int (x <<< (y &&& 31)) :: st)) : J S k n g pc ls (.int y :: .int x :: st) :=
  fun H locs la hW hV hl => lv_ishl hS.1 hS.2.1 hd (h H locs la hW hV hl)
theorem J_ishr (hS : Kx S l E L N cc own nL d) {x y : Int32} (hd : decode cc pc = .ok (.ishr, 1)) (h : J S k n g (pc + 1) ls (.int (x >>> (y &&& 31)) :: st)) : J S k n g pc ls (.int y :: .int x :: st) :=
  fun H locs la hW hV hl => lv_ishr hS.1 hS.2.1 hd (h H locs la hW hV hl)
theorem J_iushr (hS : Kx S l E L N cc own nL d) {x y v : Int32} (hd : decode cc pc = .ok (.iushr, 1)) (hv : (x.toUInt32 >>> (y.toUInt32 &&& Int32.toUInt32 31)).toInt32 = v) (h : J S k n g (pc + 1) ls (.int v :: st)) : J S k n g pc ls (.int y :: .int x :: st) :=
  fun H locs la hW hV hl => lv_iushr hS.1 hS.2.1 hd hv (h H locs la hW hV hl)
theorem J_idiv (hS : Kx S l E L N cc own nL d) {x y : Int32} (hd : decode cc pc = .ok (.idiv, 1)) (hne : ¬ y = 0) (h : J S k n g (pc + 1) ls (.int (x / y) :: st)) : J S k n g pc ls (.int y :: .int x :: st) :=
  fun H locs la hW hV hl => lv_idiv hS.1 hS.2.1 hd hne (h H locs la hW hV hl)
theorem J_irem (hS : Kx S l E L N cc own nL d) {x y : Int32} (hd : decode cc pc = .ok (.irem, 1)) (hne : ¬ y = 0) (h : J S k n g (pc + 1) ls (.int (x - x / y * y) :: st)) : J S k n g pc ls (.int y :: .int x :: st) :=
  fun H locs la hW hV hl => lv_irem hS.1 hS.2.1 hd hne (h H locs la hW hV hl)
theorem J_ineg (hS : Kx S l E L N cc own nL d) {x : Int32} (hd : decode cc pc = .ok (.ineg, 1)) (h : J S k n g (pc + 1) ls (.int (-x) :: st)) : J S k n g pc ls (.int x :: st) :=
  fun H locs la hW hV hl => lv_ineg hS.1 hS.2.1 hd (h H locs la hW hV hl)
theorem J_i2l (hS : Kx S l E L N cc own nL d) {x : Int32} (hd : decode cc pc = .ok (.i2l, 1)) (h : J S k n g (pc + 1) ls (.long x.toInt64 :: st)) : J S k n g pc ls (.int x :: st) :=
  fun H locs la hW hV hl => lv_i2l hS.1 hS.2.1 hd rfl (h H locs la hW hV hl)
theorem J_lcmp (hS : Kx S l E L N cc own nL d) {x y : Int64} (hd : decode cc pc = .ok (.lcmp, 1)) (h : J S k n g (pc + 1) ls (.int (lg_cmp x y) :: st)) : J S k n g pc ls (.long y :: .long x :: st) :=
  fun H locs la hW hV hl => W.lcmp hS.1 hS.2.1 hd (h H locs la hW hV hl)
theorem J_iconst (hS : Kx S l E L N cc own nL d) {c : Int} {v : Int32} (hd : decode cc pc = .ok (.iconst c, 1)) (hv : Int32.ofInt c = v) (h : J S k n g (pc + 1) ls (.int v :: st)) : J S k n g pc ls (st) :=
  fun H locs la hW hV hl => lv_iconst hS.1 hS.2.1 hd hv (h H locs la hW hV hl)
theorem J_bipush (hS : Kx S l E L N cc own nL d) {c : Int} {v : Int32} (hd : decode cc pc = .ok (.bipush c, 2)) (hv : (Int8.ofInt c).toInt32 = v) (h : J S k n g (pc + 2) ls (.int v :: st)) : J S k n g pc ls (st) :=
  fun H locs la hW hV hl => lv_bipush hS.1 hS.2.1 hd hv (h H locs la hW hV hl)
theorem J_sipush (hS : Kx S l E L N cc own nL d) {c : Int} {v : Int32} (hd : decode cc pc = .ok (.sipush c, 3)) (hv : (Int16.ofInt c).toInt32 = v) (h : J S k n g (pc + 3) ls (.int v :: st)) : J S k n g pc ls (st) :=
  fun H locs la hW hV hl => lv_sipush hS.1 hS.2.1 hd hv (h H locs la hW hV hl)
theorem J_lconst (hS : Kx S l E L N cc own nL d) {c : Fin 2} {v : Int64} (hd : decode cc pc = .ok (.lconst c, 1)) (hv : Int64.ofNat (c : Nat) = v) (h : J S k n g (pc + 1) ls (.long v :: st)) : J S k n g pc ls (st) :=
  fun H locs la hW hV hl => lv_lconst hS.1 hS.2.1 hd hv (h H locs la hW hV hl)
theorem J_null (hS : Kx S l E L N cc own nL d)  (hd : decode cc pc = .ok (.aconst_null, 1)) (h : J S k n g (pc + 1) ls (.null :: st)) : J S k n g pc ls (st) :=
  fun H locs la hW hV hl => lv_null hS.1 hS.2.1 hd (h H locs la hW hV hl)
theorem J_ldc (hS : Kx S l E L N cc own nL d) {i : Nat} {v : Int32} (hd : decode cc pc = .ok (.ldc i, 2)) (hw : Jvm.Cond.constant own i v ∈ gw) (h : J S k n g (pc + 2) ls (.int v :: st)) : J S k n g pc ls st :=
  fun H locs la hW hV hl => lv_ldc hS.1 hS.2.1 hS.2.2.1 (hS.2.2.2.1 _ hw) hd (h H locs la hW hV hl)
theorem J_ldcw (hS : Kx S l E L N cc own nL d) {i : Nat} {v : Int32} (hd : decode cc pc = .ok (.ldc_w i, 3)) (hw : Jvm.Cond.constant own i v ∈ gw) (h : J S k n g (pc + 3) ls (.int v :: st)) : J S k n g pc ls st :=
  fun H locs la hW hV hl => lv_ldcw hS.1 hS.2.1 hS.2.2.1 (hS.2.2.2.1 _ hw) hd (h H locs la hW hV hl)
theorem J_iload (hS : Kx S l E L N cc own nL d) {i : Nat} {v : Int32} (hd : decode cc pc = .ok (.iload i, 2)) (hl : ls[i]? = some (some (.int v))) (h : J S k n g (pc + 2) ls (.int v :: st)) : J S k n g pc ls st :=
  fun H locs la hW hV hq => lv_iload hS.1 hS.2.1 hd (hq.2.2.1 i _ hl) (h H locs la hW hV hq)
theorem J_iload_n (hS : Kx S l E L N cc own nL d) {i : Fin 4} {v : Int32} (hd : decode cc pc = .ok (.iload_n i, 1)) (hl : ls[(i : Nat)]? = some (some (.int v))) (h : J S k n g (pc + 1) ls (.int v :: st)) : J S k n g pc ls st :=
  fun H locs la hW hV hq => lv_iload_n hS.1 hS.2.1 hd rfl (hq.2.2.1 i _ hl) (h H locs la hW hV hq)
theorem J_aload_n (hS : Kx S l E L N cc own nL d) {i : Fin 4} {v : Nat} (hd : decode cc pc = .ok (.aload_n i, 1)) (hl : ls[(i : Nat)]? = some (some (.ref v))) (h : J S k n g (pc + 1) ls (.ref v :: st)) : J S k n g pc ls st :=
  fun H locs la hW hV hq => lv_aload_n hS.1 hS.2.1 hd rfl (hq.2.2.1 i _ hl) (h H locs la hW hV hq)
theorem J_aload (hS : Kx S l E L N cc own nL d) {i : Nat} {v : Nat} (hd : decode cc pc = .ok (.aload i, 2)) (hl : ls[i]? = some (some (.ref v))) (h : J S k n g (pc + 2) ls (.ref v :: st)) : J S k n g pc ls st :=
  fun H locs la hW hV hq => lv_aload hS.1 hS.2.1 hd (hq.2.2.1 i _ hl) (h H locs la hW hV hq)
theorem J_aloadN (hS : Kx S l E L N cc own nL d) {i : Nat} (hd : decode cc pc = .ok (.aload i, 2)) (hl : ls[i]? = some (some .null)) (h : J S k n g (pc + 2) ls (.null :: st)) : J S k n g pc ls st :=
  fun H locs la hW hV hq => lv_aloadN hS.1 hS.2.1 hd (hq.2.2.1 i _ hl) (h H locs la hW hV hq)
theorem J_aload_nN (hS : Kx S l E L N cc own nL d) {i : Fin 4} (hd : decode cc pc = .ok (.aload_n i, 1)) (hl : ls[(i : Nat)]? = some (some .null)) (h : J S k n g (pc + 1) ls (.null :: st)) : J S k n g pc ls st :=
  fun H locs la hW hV hq => lv_aload_nN hS.1 hS.2.1 hd rfl (hq.2.2.1 i _ hl) (h H locs la hW hV hq)
theorem J_istore (hS : Kx S l E L N cc own nL d) {i : Nat} {x : Int32} {lt : Int32 → List (Option Value)} (hd : decode cc pc = .ok (.istore i, 2)) (hi : (i : Nat) < ls.length) (ht : ∀ z : Int32, ls.set (i : Nat) (some (.int z)) = lt z) (h : ∀ z : Int32, z = x → J S k n g (pc + 2) (lt z) st) : J S k n g pc ls (.int x :: st) :=
  fun H locs la hW hV hq => lv_istore hS.1 hS.2.1 hd hq.has hi rfl (fun la' h' => h x rfl H locs la' hW hV (by rw [← ht x]; exact hq.of (v := .int x) rfl hi h'))
theorem J_istore_n (hS : Kx S l E L N cc own nL d) {i : Fin 4} {x : Int32} {lt : Int32 → List (Option Value)} (hd : decode cc pc = .ok (.istore_n i, 1)) (hi : (i : Nat) < ls.length) (ht : ∀ z : Int32, ls.set (i : Nat) (some (.int z)) = lt z) (h : ∀ z : Int32, z = x → J S k n g (pc + 1) (lt z) st) : J S k n g pc ls (.int x :: st) :=
  fun H locs la hW hV hq => lv_istore_n hS.1 hS.2.1 hd rfl hq.has hi rfl (fun la' h' => h x rfl H locs la' hW hV (by rw [← ht x]; exact hq.of (v := .int x) rfl hi h'))
theorem J_astore (hS : Kx S l E L N cc own nL d) {i : Nat} {x : Nat} {lt : List (Option Value)} (hd : decode cc pc = .ok (.astore i, 2)) (hi : (i : Nat) < ls.length) (ht : ls.set (i : Nat) (some (.ref x)) = lt) (h : J S k n g (pc + 2) lt st) : J S k n g pc ls (.ref x :: st) :=
  fun H locs la hW hV hq => lv_astore hS.1 hS.2.1 hd hq.has hi rfl (fun la' h' => h H locs la' hW hV (by rw [← ht]; exact hq.of (v := .ref x) rfl hi h'))
theorem J_astore_n (hS : Kx S l E L N cc own nL d) {i : Fin 4} {x : Nat} {lt : List (Option Value)} (hd : decode cc pc = .ok (.astore_n i, 1)) (hi : (i : Nat) < ls.length) (ht : ls.set (i : Nat) (some (.ref x)) = lt) (h : J S k n g (pc + 1) lt st) : J S k n g pc ls (.ref x :: st) :=
  fun H locs la hW hV hq => lv_astore_n hS.1 hS.2.1 hd rfl hq.has hi rfl (fun la' h' => h H locs la' hW hV (by rw [← ht]; exact hq.of (v := .ref x) rfl hi h'))
theorem J_astoreN (hS : Kx S l E L N cc own nL d) {i : Nat} {lt : List (Option Value)} (hd : decode cc pc = .ok (.astore i, 2)) (hi : (i : Nat) < ls.length) (ht : ls.set (i : Nat) (some .null) = lt) (h : J S k n g (pc + 2) lt st) : J S k n g pc ls (.null :: st) :=
  fun H locs la hW hV hq => lv_astoreN hS.1 hS.2.1 hd hq.has hi rfl (fun la' h' => h H locs la' hW hV (by rw [← ht]; exact hq.of (v := .null) rfl hi h'))
theorem Lo.at {ad : Nat → Nat} {la : Array Slot} {ls : List (Option Value)} (h : Lo ad la ls) {i : Nat} {v : Value} (hl : ls[i]? = some (some v)) : ∃ q : Nat, (al ad ls)[q]? = some (i, mv ad v) := by
  obtain ⟨q, hq⟩ := List.mem_iff_getElem?.mp (al_mem (ad := ad).mpr ⟨v, hl, rfl⟩ : (i, mv ad v) ∈ al ad ls)
  exact ⟨q, hq⟩
theorem J_iinc (hS : Kx S l E L N cc own nL d) {i : Nat} {c : Int} {x v : Int32} {lt : Int32 → List (Option Value)} (hd : decode cc pc = .ok (.iinc i c, 3)) (hl : ls[i]? = some (some (.int x))) (hv : Int32.ofInt c = v) (ht : ∀ z : Int32, ls.set i (some (.int z)) = lt z) (h : ∀ z : Int32, z = x + v → J S k n g (pc + 3) (lt z) st) : J S k n g pc ls st := by
  intro H locs la hW hV hq
  have hi : i < ls.length := (List.getElem?_eq_some_iff.mp hl).1
  obtain ⟨q, e⟩ := hq.at hl
  subst hv
  exact lv_iinc (v := x + Int32.ofInt c) hS.1 hS.2.1 hd hq.has e rfl hi rfl (fun la' h' => h _ rfl H locs la' hW hV (by rw [← ht]; exact hq.of (v := .int (x + Int32.ofInt c)) rfl hi h'))
theorem J_dup (hS : Kx S l E L N cc own nL d) {v : Value} (hd : decode cc pc = .ok (.dup, 1)) (hv : v.category = 1) (h : J S k n g (pc + 1) ls (v :: v :: st)) : J S k n g pc ls (v :: st) :=
  fun H locs la hW hV hl => lv_dup hS.1 hS.2.1 hd (by rw [mv_cat]; exact hv) (h H locs la hW hV hl)
theorem J_pop (hS : Kx S l E L N cc own nL d) {v : Value} (hd : decode cc pc = .ok (.pop, 1)) (hv : v.category = 1) (h : J S k n g (pc + 1) ls st) : J S k n g pc ls (v :: st) :=
  fun H locs la hW hV hl => lv_pop hS.1 hS.2.1 hd (by rw [mv_cat]; exact hv) (h H locs la hW hV hl)
theorem J_dup2 (hS : Kx S l E L N cc own nL d) {v w : Value} (hd : decode cc pc = .ok (.dup2, 1)) (hv : v.category = 1) (hw : w.category = 1) (h : J S k n g (pc + 1) ls (v :: w :: v :: w :: st)) : J S k n g pc ls (v :: w :: st) :=
  fun H locs la hW hV hl => lv_dup2_11 hS.1 hS.2.1 hd (by rw [mv_cat]; exact hv) (by rw [mv_cat]; exact hw) (h H locs la hW hV hl)
theorem J_goto (hS : Kx S l E L N cc own nL d) {off : Int} {tgt : Nat} (hd : decode cc pc = .ok (.goto off, 3)) (ht : (pc : Int) + off = (tgt : Int)) (h : J S k n g tgt ls st) : J S k n g pc ls st :=
  fun H locs la hW hV hl => lv_goto hS.1 hS.2.1 hd ht (h H locs la hW hV hl)
theorem J_ifnull (hS : Kx S l E L N cc own nL d) {x : Nat} {off : Int} (hd : decode cc pc = .ok (.ifnull off, 3)) (h : J S k n g (pc + 3) ls st) : J S k n g pc ls (.ref x :: st) :=
  fun H locs la hW hV hl => lv_ifnull hS.1 hS.2.1 hd (h H locs la hW hV hl)
theorem J_ifnullN (hS : Kx S l E L N cc own nL d) {off : Int} {tgt : Nat} (hd : decode cc pc = .ok (.ifnull off, 3)) (ht : (pc : Int) + off = (tgt : Int)) (h : J S k n g tgt ls st) : J S k n g pc ls (.null :: st) :=
  fun H locs la hW hV hl => lv_ifnullN hS.1 hS.2.1 hd ht (h H locs la hW hV hl)
theorem J_ifnonnull (hS : Kx S l E L N cc own nL d) {x : Nat} {off : Int} {tgt : Nat} (hd : decode cc pc = .ok (.ifnonnull off, 3)) (ht : (pc : Int) + off = (tgt : Int)) (h : J S k n g tgt ls st) : J S k n g pc ls (.ref x :: st) :=
  fun H locs la hW hV hl => lv_ifnonnull hS.1 hS.2.1 hd ht (h H locs la hW hV hl)
theorem J_ifnonnullN (hS : Kx S l E L N cc own nL d) {off : Int} (hd : decode cc pc = .ok (.ifnonnull off, 3)) (h : J S k n g (pc + 3) ls st) : J S k n g pc ls (.null :: st) :=
  fun H locs la hW hV hl => lv_ifnonnullN hS.1 hS.2.1 hd (h H locs la hW hV hl)
theorem J_if_eq (hS : Kx S l E L N cc own nL d) {x : Int32} {off : Int} {tgt : Nat} (hd : decode cc pc = .ok (.ifCond .eq off, 3)) (ht : (pc : Int) + off = (tgt : Int)) (h1 : x = 0 → J S k n g tgt ls st) (h2 : ¬ x = 0 → J S k n g (pc + 3) ls st) : J S k n g pc ls (.int x :: st) :=
  fun H locs la hW hV hl => lv_if_eq hS.1 hS.2.1 hd ht (fun q => h1 q H locs la hW hV hl) (fun q => h2 q H locs la hW hV hl)
theorem J_icmp_eq (hS : Kx S l E L N cc own nL d) {x y : Int32} {off : Int} {tgt : Nat} (hd : decode cc pc = .ok (.if_icmp .eq off, 3)) (ht : (pc : Int) + off = (tgt : Int)) (h1 : x = y → J S k n g tgt ls st) (h2 : ¬ x = y → J S k n g (pc + 3) ls st) : J S k n g pc ls (.int y :: .int x :: st) :=
  fun H locs la hW hV hl => lv_icmp_eq hS.1 hS.2.1 hd ht (fun q => h1 q H locs la hW hV hl) (fun q => h2 q H locs la hW hV hl)
theorem J_if_ne (hS : Kx S l E L N cc own nL d) {x : Int32} {off : Int} {tgt : Nat} (hd : decode cc pc = .ok (.ifCond .ne off, 3)) (ht : (pc : Int) + off = (tgt : Int)) (h1 : ¬ x = 0 → J S k n g tgt ls st) (h2 : x = 0 → J S k n g (pc + 3) ls st) : J S k n g pc ls (.int x :: st) :=
  fun H locs la hW hV hl => lv_if_ne hS.1 hS.2.1 hd ht (fun q => h1 q H locs la hW hV hl) (fun q => h2 q H locs la hW hV hl)
theorem J_icmp_ne (hS : Kx S l E L N cc own nL d) {x y : Int32} {off : Int} {tgt : Nat} (hd : decode cc pc = .ok (.if_icmp .ne off, 3)) (ht : (pc : Int) + off = (tgt : Int)) (h1 : ¬ x = y → J S k n g tgt ls st) (h2 : x = y → J S k n g (pc + 3) ls st) : J S k n g pc ls (.int y :: .int x :: st) :=
  fun H locs la hW hV hl => lv_icmp_ne hS.1 hS.2.1 hd ht (fun q => h1 q H locs la hW hV hl) (fun q => h2 q H locs la hW hV hl)
theorem J_if_lt (hS : Kx S l E L N cc own nL d) {x : Int32} {off : Int} {tgt : Nat} (hd : decode cc pc = .ok (.ifCond .lt off, 3)) (ht : (pc : Int) + off = (tgt : Int)) (h1 : x < 0 → J S k n g tgt ls st) (h2 : ¬ x < 0 → J S k n g (pc + 3) ls st) : J S k n g pc ls (.int x :: st) :=
  fun H locs la hW hV hl => lv_if_lt hS.1 hS.2.1 hd ht (fun q => h1 q H locs la hW hV hl) (fun q => h2 q H locs la hW hV hl)
theorem J_icmp_lt (hS : Kx S l E L N cc own nL d) {x y : Int32} {off : Int} {tgt : Nat} (hd : decode cc pc = .ok (.if_icmp .lt off, 3)) (ht : (pc : Int) + off = (tgt : Int)) (h1 : x < y → J S k n g tgt ls st) (h2 : ¬ x < y → J S k n g (pc + 3) ls st) : J S k n g pc ls (.int y :: .int x :: st) :=
  fun H locs la hW hV hl => lv_icmp_lt hS.1 hS.2.1 hd ht (fun q => h1 q H locs la hW hV hl) (fun q => h2 q H locs la hW hV hl)
theorem J_if_ge (hS : Kx S l E L N cc own nL d) {x : Int32} {off : Int} {tgt : Nat} (hd : decode cc pc = .ok (.ifCond .ge off, 3)) (ht : (pc : Int) + off = (tgt : Int)) (h1 : 0 ≤ x → J S k n g tgt ls st) (h2 : ¬ 0 ≤ x → J S k n g (pc + 3) ls st) : J S k n g pc ls (.int x :: st) :=
  fun H locs la hW hV hl => lv_if_ge hS.1 hS.2.1 hd ht (fun q => h1 q H locs la hW hV hl) (fun q => h2 q H locs la hW hV hl)
theorem J_icmp_ge (hS : Kx S l E L N cc own nL d) {x y : Int32} {off : Int} {tgt : Nat} (hd : decode cc pc = .ok (.if_icmp .ge off, 3)) (ht : (pc : Int) + off = (tgt : Int)) (h1 : y ≤ x → J S k n g tgt ls st) (h2 : ¬ y ≤ x → J S k n g (pc + 3) ls st) : J S k n g pc ls (.int y :: .int x :: st) :=
  fun H locs la hW hV hl => lv_icmp_ge hS.1 hS.2.1 hd ht (fun q => h1 q H locs la hW hV hl) (fun q => h2 q H locs la hW hV hl)
theorem J_if_gt (hS : Kx S l E L N cc own nL d) {x : Int32} {off : Int} {tgt : Nat} (hd : decode cc pc = .ok (.ifCond .gt off, 3)) (ht : (pc : Int) + off = (tgt : Int)) (h1 : 0 < x → J S k n g tgt ls st) (h2 : ¬ 0 < x → J S k n g (pc + 3) ls st) : J S k n g pc ls (.int x :: st) :=
  fun H locs la hW hV hl => lv_if_gt hS.1 hS.2.1 hd ht (fun q => h1 q H locs la hW hV hl) (fun q => h2 q H locs la hW hV hl)
theorem J_icmp_gt (hS : Kx S l E L N cc own nL d) {x y : Int32} {off : Int} {tgt : Nat} (hd : decode cc pc = .ok (.if_icmp .gt off, 3)) (ht : (pc : Int) + off = (tgt : Int)) (h1 : y < x → J S k n g tgt ls st) (h2 : ¬ y < x → J S k n g (pc + 3) ls st) : J S k n g pc ls (.int y :: .int x :: st) :=
  fun H locs la hW hV hl => lv_icmp_gt hS.1 hS.2.1 hd ht (fun q => h1 q H locs la hW hV hl) (fun q => h2 q H locs la hW hV hl)
theorem J_if_le (hS : Kx S l E L N cc own nL d) {x : Int32} {off : Int} {tgt : Nat} (hd : decode cc pc = .ok (.ifCond .le off, 3)) (ht : (pc : Int) + off = (tgt : Int)) (h1 : x ≤ 0 → J S k n g tgt ls st) (h2 : ¬ x ≤ 0 → J S k n g (pc + 3) ls st) : J S k n g pc ls (.int x :: st) :=
  fun H locs la hW hV hl => lv_if_le hS.1 hS.2.1 hd ht (fun q => h1 q H locs la hW hV hl) (fun q => h2 q H locs la hW hV hl)
theorem J_icmp_le (hS : Kx S l E L N cc own nL d) {x y : Int32} {off : Int} {tgt : Nat} (hd : decode cc pc = .ok (.if_icmp .le off, 3)) (ht : (pc : Int) + off = (tgt : Int)) (h1 : x ≤ y → J S k n g tgt ls st) (h2 : ¬ x ≤ y → J S k n g (pc + 3) ls st) : J S k n g pc ls (.int y :: .int x :: st) :=
  fun H locs la hW hV hl => lv_icmp_le hS.1 hS.2.1 hd ht (fun q => h1 q H locs la hW hV hl) (fun q => h2 q H locs la hW hV hl)
theorem J_tableIn (hS : Kx S l E L N cc own nL d) {dflt lo hi : Int} {offs : Array Int} {len : Nat} {x : Int32} {off : Int} {tgt : Nat} (hd : decode cc pc = .ok (.tableswitch dflt lo hi offs, len)) (h1 : ¬ x.toInt < lo) (h2 : ¬ hi < x.toInt) (ho : offs[(x.toInt - lo).toNat]? = some off) (ht : (pc : Int) + off = (tgt : Int)) (h : J S k n g tgt ls st) : J S k n g pc ls (.int x :: st) :=
  fun H locs la hW hV hl => lv_tableIn hS.1 hS.2.1 hd h1 h2 ho ht (h H locs la hW hV hl)
theorem J_tableOut (hS : Kx S l E L N cc own nL d) {dflt lo hi : Int} {offs : Array Int} {len : Nat} {x : Int32} {tgt : Nat} (hd : decode cc pc = .ok (.tableswitch dflt lo hi offs, len)) (h1 : x.toInt < lo ∨ hi < x.toInt) (ht : (pc : Int) + dflt = (tgt : Int)) (h : J S k n g tgt ls st) : J S k n g pc ls (.int x :: st) :=
  fun H locs la hW hV hl => lv_tableOut hS.1 hS.2.1 hd h1 ht (h H locs la hW hV hl)
theorem J_lookup (hS : Kx S l E L N cc own nL d) {dflt : Int} {ps : Array (Int × Int)} {len : Nat} {x : Int32} {off : Int} {tgt : Nat} (hd : decode cc pc = .ok (.lookupswitch dflt ps, len)) (hp : (ps.toList.zip (ps.toList.drop 1)).all (fun (a, next) => a.1 < next.1) = true) (ho : Op.lookupswitch.offset ps.toList dflt x.toInt = off) (ht : (pc : Int) + off = (tgt : Int)) (h : J S k n g tgt ls st) : J S k n g pc ls (.int x :: st) :=
  fun H locs la hW hV hl => lv_lookup hS.1 hS.2.1 hd hp ho ht (h H locs la hW hV hl)
end CoreRows
end
section
/-! MEMORY ROWS: fields, arrays, statics -/
/-- an object of the class ci at the cell a: m slots of these kinds -/
def Ob (L : Nat → Ly) (N ci a m : Nat) (kd : Nat → Nat) : Prop := a < N ∧ L a = (.inl ci, m, kd)
/-- a row of ints (or booleans) at the cell a, len places -/
def Ar (L : Nat → Ly) (N : Nat) (ty : FieldType) (a len : Nat) : Prop := a < N ∧ ∃ kd : Nat → Nat, L a = (.inr ty, len, kd) ∧ kd 0 = 0
/-- a row of longs -/
def Al (L : Nat → Ly) (N : Nat) (a len : Nat) : Prop := a < N ∧ ∃ kd : Nat → Nat, L a = (.inr .long, len, kd) ∧ kd 0 = 1
/-- a row of references that stay -/
def Aq (L : Nat → Ly) (N : Nat) (C : String) (a len : Nat) (kd : Nat → Nat) : Prop := a < N ∧ L a = (.inr (.object C), len, kd) ∧ ∃ z, kd 0 = z + 2
/-- the class file's entry idx of 'own' names the field f of the class ci (of m fields) -/
def FL (own : String) (idx ci f m : Nat) : Prop := ∃ (C : String) (T : u_T), vwCl[ci]? = some (C, T, m) ∧ f < m ∧ Cond.fieldLink own idx (T f).1 (T f).2.1 (T f).2.2.1 ∈ gw ∧ ∀ w ∈ u_ws C T m, w ∈ gw
/-- and may be written, of this type -/
def FP (own : String) (idx ci f m : Nat) (ty : FieldType) : Prop := ∃ (C : String) (T : u_T), vwCl[ci]? = some (C, T, m) ∧ f < m ∧ Cond.fieldLink own idx (T f).1 (T f).2.1 (T f).2.2.1 ∈ gw ∧ (∀ w ∈ u_ws C T m, w ∈ gw) ∧ (T f).2.2.2 = false ∧ parseFieldDescriptor (T f).2.2.1 = some ty ∧ (∃ ty0 : Nat → FieldType, ∀ k, k < m → parseFieldDescriptor (T k).2.2.1 = some (ty0 k)) ∧ ∀ a, a < m → ∀ b, b < m → a ≠ b → (T a).2.1 ≠ (T b).2.1
theorem ce_obj {E : Ey} {ci m : Nat} {kd : Nat → Nat} {r : Nat → Int32} : ce E (.inl ci, m, kd) r = .inr (ci, (List.range m).map (fun k => mv E.ad (ab (kd k) (r k)))) := rfl
theorem ce_int {E : Ey} {ty : FieldType} {m : Nat} {kd : Nat → Nat} {r : Nat → Int32} (h : kd 0 = 0) : ce E (.inr ty, m, kd) r = .inl (E.cA ty, m, .inl r) := by simp [ce, h]
theorem ce_lng {E : Ey} {ty : FieldType} {m : Nat} {kd : Nat → Nat} {r : Nat → Int32} (h : kd 0 = 1) : ce E (.inr ty, m, kd) r = .inl (E.cA ty, m, .inr (.inl fun j => (r j).toInt64)) := by simp [ce, h]
theorem ce_ref {E : Ey} {ty : FieldType} {m : Nat} {kd : Nat → Nat} {r : Nat → Int32} (h : ∃ z, kd 0 = z + 2) : ce E (.inr ty, m, kd) r = .inl (E.cA ty, m, .inr (.inr (.inr (.inr fun j => some (E.ad (kd j - 3)))))) := by
  obtain ⟨z, h⟩ := h
  simp [ce, h]
theorem ce_put {E : Ey} {m f : Nat} {kd : Nat → Nat} {r : Nat → Int32} {x : Int32} : ((List.range m).map (fun k => mv E.ad (ab (kd k) (r k)))).set f (mv E.ad (ab (kd f) x)) = (List.range m).map (fun k => mv E.ad (ab (kd k) (upd r f x k))) := by
  apply List.ext_getElem?
  intro i
  rw [List.getElem?_set]
  by_cases e : f = i
  · subst e
    by_cases h : f < m <;> simp [h, upd]
  · rw [if_neg e]
    by_cases h : i < m
    · have : ¬ i = f := fun q => e q.symm
      simp [h, upd, this]
    · simp [h]
section MemRows
variable {S : Sx} {k n : Nat} {g : Mm} {pc : Nat} {ls : List (Option Value)} {st : List Value} {cc : ByteArray} {own : String} {nL d : Nat} {l : Launch} {E : Ey} {L : Nat → Ly} {N : Nat}
theorem Kx.L_eq (hS : Kx S l E L N cc own nL d) : S.L = L := hS.2.2.2.2.2.2.2.2.2.2.2.2.1
theorem Kx.N_eq (hS : Kx S l E L N cc own nL d) : S.N = N := hS.2.2.2.2.2.2.2.2.2.2.2.2.2.1
theorem Kx.E_eq (hS : Kx S l E L N cc own nL d) : S.E = E := hS.2.2.2.2.2.2.2.2.2.2.2.2.2.2.1
theorem Kx.l_eq (hS : Kx S l E L N cc own nL d) : S.l = l := hS.2.2.2.2.2.2.2.2.2.2.2.2.2.2.2
theorem Kx.at (hS : Kx S l E L N cc own nL d) {a : Nat} (h : a < N) : (wl S.E S.L S.N g)[a]? = some (S.E.ad a, ce S.E (L a) (g a)) := by rw [← hS.L_eq]; exact wl_at (by rw [hS.N_eq]; exact h)
theorem J_get (hS : Kx S l E L N cc own nL d) {a idx ci f m : Nat} {kd : Nat → Nat} {v : Value} (hd : decode cc pc = .ok (.getfield idx, 3)) (hf : FL own idx ci f m) (ho : Ob L N ci a m kd) (hv : ab (kd f) (g a f) = v) (h : J S k n g (pc + 3) ls (v :: st)) : J S k n g pc ls (.ref a :: st) := by
  intro H locs la hW hV hl
  obtain ⟨C, T, h1, h2, h3, h4⟩ := hf
  have e := hS.at (g := g) ho.1
  rw [ho.2, ce_obj] at e
  exact va_get hS.1 hS.2.1 hS.2.2.2.1 h4 hS.2.2.1 hW.2.1 hW.1 a e h1 f h2 (hS.2.2.2.1 _ h3) (fun _ q => q) (v := mv S.E.ad v) (by rw [← hv]; simp [h2]) hd (h H locs la hW hV hl)
theorem J_getI (hS : Kx S l E L N cc own nL d) {a idx ci f m : Nat} {kd : Nat → Nat} (hd : decode cc pc = .ok (.getfield idx, 3)) (hf : FL own idx ci f m) (ho : Ob L N ci a m kd) (hk : kd f = 0) (h : J S k n g (pc + 3) ls (.int (g a f) :: st)) : J S k n g pc ls (.ref a :: st) := J_get hS hd hf ho (by rw [hk]; rfl) h
theorem J_getR (hS : Kx S l E L N cc own nL d) {a idx ci f m t : Nat} {kd : Nat → Nat} (hd : decode cc pc = .ok (.getfield idx, 3)) (hf : FL own idx ci f m) (ho : Ob L N ci a m kd) (hk : kd f = t + 3) (h : J S k n g (pc + 3) ls (.ref t :: st)) : J S k n g pc ls (.ref a :: st) := J_get hS hd hf ho (by rw [hk]; rfl) h
theorem J_getD (hS : Kx S l E L N cc own nL d) {a idx ci f m : Nat} {kd : Nat → Nat} {v : Value} (hd : decode cc pc = .ok (.getfield idx, 3)) (hf : FL own idx ci f m) (ho : Ob L N ci a m kd) (hk : kd f = 2) (hv : ab 2 (g a f) = v) (h : J S k n g (pc + 3) ls (v :: st)) : J S k n g pc ls (.ref a :: st) := J_get hS hd hf ho (by rw [hk]; exact hv) h
theorem J_put (hS : Kx S l E L N cc own nL d) {a idx ci f m : Nat} {kd : Nat → Nat} {ty : FieldType} {v : Value} {x : Int32} (hd : decode cc pc = .ok (.putfield idx, 3)) (hf : FP own idx ci f m ty) (ho : Ob L N ci a m kd) (hv : ab (kd f) x = v) (hn : narrow ty (mv E.ad v) = mv E.ad v) (ht : fits ty (mv E.ad v) = true) (h : ∀ g', g' = u2 g a f x → J S k n g' (pc + 3) ls st) : J S k n g pc ls (v :: .ref a :: st) := by
  intro H locs la hW hV hl
  obtain ⟨C, T, h1, h2, h3, h4, h5, h6, ⟨ty0, h7⟩, h8⟩ := hf
  have e := hS.at (g := g) ho.1
  rw [ho.2, ce_obj] at e
  have hE := hS.E_eq
  refine va_put hS.1 hS.2.1 hS.2.2.2.1 h4 ty0 h7 h8 hS.2.2.1 hW.2.1 hW.1 (wl_D hW.2.2.1) hV a e h1 f h2 (hS.2.2.2.1 _ h3) (fun _ q => q) h5 (v := mv S.E.ad v) h6 (by rw [hE]; exact hn) (by rw [hE]; exact ht) (by simp [h2]) hd ?_
  intro H1 locs1 hP hD hV1
  refine h _ rfl H1 locs1 la ⟨?_, hW.2.1, hW.2.2.1, Nat.le_trans hS.2.2.2.2.2.2.2.2.2.1 hV1.1, hS.2.2.2.2.2.2.1.kept hV1.2.1⟩ hV1 hl
  have e2 : (wl S.E S.L S.N g).set a (S.E.ad a, ce S.E (S.L a) (u2 g a f x a)) = wl S.E S.L S.N (u2 g a f x) := wl_set (fun b hb => u2_ne b hb)
  rw [← e2, hS.L_eq, ho.2, ce_obj, u2_row, ← ce_put, hv, ← hS.L_eq]
  exact hP
theorem J_putI (hS : Kx S l E L N cc own nL d) {a idx ci f m : Nat} {kd : Nat → Nat} {x : Int32} (hd : decode cc pc = .ok (.putfield idx, 3)) (hf : FP own idx ci f m .int) (ho : Ob L N ci a m kd) (hk : kd f = 0) (h : ∀ g', g' = u2 g a f x → J S k n g' (pc + 3) ls st) : J S k n g pc ls (.int x :: .ref a :: st) :=
  J_put hS hd hf ho (x := x) (by rw [hk]; rfl) rfl rfl h
theorem J_putZ (hS : Kx S l E L N cc own nL d) {a idx ci f m : Nat} {kd : Nat → Nat} {x : Int32} (hd : decode cc pc = .ok (.putfield idx, 3)) (hf : FP own idx ci f m .boolean) (ho : Ob L N ci a m kd) (hk : kd f = 0) (hx : x = 0 ∨ x = 1) (h : ∀ g', g' = u2 g a f x → J S k n g' (pc + 3) ls st) : J S k n g pc ls (.int x :: .ref a :: st) :=
  J_put hS hd hf ho (x := x) (by rw [hk]; rfl) (by rcases hx with e | e <;> subst e <;> rfl) (by rcases hx with e | e <;> subst e <;> rfl) h
theorem J_putD (hS : Kx S l E L N cc own nL d) {a idx ci f m : Nat} {kd : Nat → Nat} {ty : FieldType} {v : Value} {x : Int32} (hd : decode cc pc = .ok (.putfield idx, 3)) (hf : FP own idx ci f m ty) (hy : (∃ C, ty = .object C) ∨ ∃ t, ty = .array t) (ho : Ob L N ci a m kd) (hk : kd f = 2) (hv : ab 2 x = v) (hr : v = .null ∨ ∃ t, v = .ref t) (h : ∀ g', g' = u2 g a f x → J S k n g' (pc + 3) ls st) : J S k n g pc ls (v :: .ref a :: st) :=
  J_put hS hd hf ho (x := x) (by rw [hk]; exact hv) (by rcases hy with ⟨C, e⟩ | ⟨t, e⟩ <;> rcases hr with q | ⟨t, q⟩ <;> subst e <;> subst q <;> rfl) (by rcases hy with ⟨C, e⟩ | ⟨t, e⟩ <;> rcases hr with q | ⟨t, q⟩ <;> subst e <;> subst q <;> rfl) h
theorem J_iald (hS : Kx S l E L N cc own nL d) {a len : Nat} {i : Int32} (hd : decode cc pc = .ok (.iaload, 1)) (ha : Ar L N .int a len) (hin : vp_in i len) (h : J S k n g (pc + 1) ls (.int (g a i.toNatClampNeg) :: st)) : J S k n g pc ls (.int i :: .ref a :: st) := by
  intro H locs la hW hV hl
  obtain ⟨h1, kd, h2, h3⟩ := ha
  have e := hS.at (g := g) h1
  rw [h2, ce_int h3] at e
  exact va_iald hS.1 hS.2.1 hW.2.1 hW.1 a 0 e rfl hin hd (h H locs la hW hV hl)
theorem J_zald (hS : Kx S l E L N cc own nL d) {a len : Nat} {i : Int32} (hd : decode cc pc = .ok (.baload, 1)) (ha : Ar L N .boolean a len) (hin : vp_in i len) (h : J S k n g (pc + 1) ls (.int (g a i.toNatClampNeg) :: st)) : J S k n g pc ls (.int i :: .ref a :: st) := by
  intro H locs la hW hV hl
  obtain ⟨h1, kd, h2, h3⟩ := ha
  have e := hS.at (g := g) h1
  rw [h2, ce_int h3] at e
  exact va_zald hS.1 hS.2.1 hW.2.1 hW.1 a 1 e rfl hin hd (h H locs la hW hV hl)
theorem J_lald (hS : Kx S l E L N cc own nL d) {a len : Nat} {i : Int32} (hd : decode cc pc = .ok (.laload, 1)) (ha : Al L N a len) (hin : vp_in i len) (h : J S k n g (pc + 1) ls (.long (g a i.toNatClampNeg).toInt64 :: st)) : J S k n g pc ls (.int i :: .ref a :: st) := by
  intro H locs la hW hV hl
  obtain ⟨h1, kd, h2, h3⟩ := ha
  have e := hS.at (g := g) h1
  rw [h2, ce_lng h3] at e
  exact va_lald hS.1 hS.2.1 hW.2.1 hW.1 a 2 e rfl hin hd (h H locs la hW hV hl)
theorem J_store (hS : Kx S l E L N cc own nL d) {a i : Nat} {x : Int32} {w : va_E} {H H1 : Heap} {locs1 : List Loc} (hW : Wd S.E S.L S.N g S.s H) (hV1 : va_S S.E.A S.s.heap H1 locs1) (hw : w = ce S.E (L a) (upd (g a) i x)) (hP : va_P S.E.D vwCl ((wl S.E S.L S.N g).set a (S.E.ad a, w)) H1) : Wd S.E S.L S.N (u2 g a i x) S.s H1 := by
  refine ⟨?_, hW.2.1, hW.2.2.1, Nat.le_trans hS.2.2.2.2.2.2.2.2.2.1 hV1.1, hS.2.2.2.2.2.2.1.kept hV1.2.1⟩
  have e2 : (wl S.E S.L S.N g).set a (S.E.ad a, ce S.E (S.L a) (u2 g a i x a)) = wl S.E S.L S.N (u2 g a i x) := wl_set (fun b hb => u2_ne b hb)
  rw [← e2, hS.L_eq, u2_row, ← hw, ← hS.L_eq]
  exact hP
theorem J_iast (hS : Kx S l E L N cc own nL d) {a len : Nat} {i x : Int32} (hd : decode cc pc = .ok (.iastore, 1)) (ha : Ar L N .int a len) (hin : vp_in i len) (h : ∀ g', g' = u2 g a i.toNatClampNeg x → J S k n g' (pc + 1) ls st) : J S k n g pc ls (.int x :: .int i :: .ref a :: st) := by
  intro H locs la hW hV hl
  obtain ⟨h1, kd, h2, h3⟩ := ha
  have e := hS.at (g := g) h1
  rw [h2, ce_int h3] at e
  exact va_iast hS.1 hS.2.1 hW.2.1 hW.1 (wl_D hW.2.2.1) hV a 0 e rfl hin hd (fun H1 locs1 hP hD hV1 => h _ rfl H1 locs1 la (J_store hS hW hV1 (by rw [h2, ce_int h3]) hP) hV1 hl)
theorem J_zast (hS : Kx S l E L N cc own nL d) {a len : Nat} {i x : Int32} (hd : decode cc pc = .ok (.bastore, 1)) (ha : Ar L N .boolean a len) (hin : vp_in i len) (hx : x = 0 ∨ x = 1) (h : ∀ g', g' = u2 g a i.toNatClampNeg x → J S k n g' (pc + 1) ls st) : J S k n g pc ls (.int x :: .int i :: .ref a :: st) := by
  intro H locs la hW hV hl
  obtain ⟨h1, kd, h2, h3⟩ := ha
  have e := hS.at (g := g) h1
  rw [h2, ce_int h3] at e
  have hx2 : vp_nar .boolean x = x := by rcases hx with q | q <;> subst q <;> decide
  exact va_zast hS.1 hS.2.1 hW.2.1 hW.1 (wl_D hW.2.2.1) hV a 1 e rfl hin hd (fun H1 locs1 hP hD hV1 => h _ rfl H1 locs1 la (J_store hS hW hV1 (by rw [h2, ce_int h3, hx2]) hP) hV1 hl)
theorem J_last (hS : Kx S l E L N cc own nL d) {a len : Nat} {i x : Int32} {y : Int64} (hd : decode cc pc = .ok (.lastore, 1)) (ha : Al L N a len) (hin : vp_in i len) (hx : y = x.toInt64) (h : ∀ g', g' = u2 g a i.toNatClampNeg x → J S k n g' (pc + 1) ls st) : J S k n g pc ls (.long y :: .int i :: .ref a :: st) := by
  intro H locs la hW hV hl
  obtain ⟨h1, kd, h2, h3⟩ := ha
  have e := hS.at (g := g) h1
  rw [h2, ce_lng h3] at e
  exact va_last hS.1 hS.2.1 hW.2.1 hW.1 (wl_D hW.2.2.1) hV a 2 e rfl hin hd (fun H1 locs1 hP hD hV1 => h _ rfl H1 locs1 la (J_store hS hW hV1 (by rw [h2, ce_lng h3, hx]; congr; funext j; simp only [vp_updL, upd]; split <;> rfl) hP) hV1 hl)
theorem J_alen (hS : Kx S l E L N cc own nL d) {a len : Nat} {v : Int32} (hd : decode cc pc = .ok (.arraylength, 1)) (ha : Ar L N .int a len) (hv : Int32.ofNat len = v) (h : J S k n g (pc + 1) ls (.int v :: st)) : J S k n g pc ls (.ref a :: st) := by
  intro H locs la hW hV hl
  obtain ⟨h1, kd, h2, h3⟩ := ha
  have e := hS.at (g := g) h1
  rw [h2, ce_int h3] at e
  exact va_alen hS.1 hS.2.1 hW.2.1 hW.1 a 0 e rfl hv hd (h H locs la hW hV hl)
theorem J_aald (hS : Kx S l E L N cc own nL d) {a len t0 t : Nat} {C : String} {kd : Nat → Nat} {i : Int32} (hd : decode cc pc = .ok (.aaload, 1)) (ha : Aq L N C a len kd) (ht : ∀ E : Ey, (tyl E)[t0]? = some (E.cA (.object C), .object C)) (hin : vp_in i len) (hk : kd i.toNatClampNeg = t + 3) (h : J S k n g (pc + 1) ls (.ref t :: st)) : J S k n g pc ls (.int i :: .ref a :: st) := by
  intro H locs la hW hV hl
  obtain ⟨h1, h2, h3⟩ := ha
  have e := hS.at (g := g) h1
  rw [h2, ce_ref h3] at e
  refine va_aldq hS.1 hS.2.1 hW.2.1 hW.1 a t0 e (ht _) hin hd ?_
  rw [hk]
  exact h H locs la hW hV hl
/-- a static row: ROLES 1001, WITHOUT 1002, PLACES 1003 -/
theorem J_gets (hS : Kx S l E L N cc own nL d) {idx t : Nat} {C nm : String} (hd : decode cc pc = .ok (.getstatic idx, 3)) (hw : Cond.fieldLink own idx C nm "[I" ∈ gw) (ht : ∀ (E : Ey) (U : State) (H : Heap), Ro E U H → va_Z C nm "[I" (.ref (E.ad t)) E.A U H) (h : J S k n g (pc + 3) ls (.ref t :: st)) : J S k n g pc ls st :=
  fun H locs la hW hV hl => va_gets hS.1 hS.2.1 (ht _ _ _ hS.2.2.2.2.2.2.1) hV hS.2.2.1 (hS.2.2.2.1 _ hw) (fun _ q => q) hd (h H locs la hW hV hl)
theorem J_tald (hS : Kx S l E L N cc own nL d) {t len : Nat} {f : Nat → Int32} {i : Int32} (hd : decode cc pc = .ok (.iaload, 1)) (ht : ∀ (E : Ey) (U : State) (H : Heap), Ro E U H → va_T .int (E.ad t) len (fun j => .int (f j)) E.A U H) (hin : vp_in i len) (h : J S k n g (pc + 1) ls (.int (f i.toNatClampNeg) :: st)) : J S k n g pc ls (.int i :: .ref t :: st) :=
  fun H locs la hW hV hl => va_ti hS.1 hS.2.1 (ht _ _ _ hS.2.2.2.2.2.2.1) hV hin rfl hd (h H locs la hW hV hl)
theorem ro_ROLES : ∀ (E : Ey) (U : State) (H : Heap), Ro E U H → va_Z "YardTalk" "ROLES" "[I" (.ref (E.ad 1001)) E.A U H := fun _ _ _ h => h.1.1
theorem ro_ROLESt : ∀ (E : Ey) (U : State) (H : Heap), Ro E U H → va_T .int (E.ad 1001) 18 (fun j => .int (zRO j)) E.A U H := fun _ _ _ h => h.1.2
theorem ro_WITHOUT : ∀ (E : Ey) (U : State) (H : Heap), Ro E U H → va_Z "YardTalk$Ruling" "WITHOUT" "[I" (.ref (E.ad 1002)) E.A U H := fun _ _ _ h => h.2.1.1
theorem ro_WITHOUTt : ∀ (E : Ey) (U : State) (H : Heap), Ro E U H → va_T .int (E.ad 1002) 4 (fun j => .int (zWI j)) E.A U H := fun _ _ _ h => h.2.1.2
theorem ro_PLACES : ∀ (E : Ey) (U : State) (H : Heap), Ro E U H → va_Z "YardTalkModel" "PLACES" "[I" (.ref (E.ad 1003)) E.A U H := fun _ _ _ h => h.2.2.1.1
theorem ro_PLACESt : ∀ (E : Ey) (U : State) (H : Heap), Ro E U H → va_T .int (E.ad 1003) 18 (fun j => .int (zRO j)) E.A U H := fun _ _ _ h => h.2.2.1.2
/-- a row copied into another -/
def uc (g : Mm) (a b sp dp n : Nat) : Mm := fun q => if q = b then va_cpy (g a) (g b) sp dp n else g q
theorem J_copy (hS : Kx S l E L N cc own nL d) {idx a b la0 lb : Nat} {sp dp m : Int32} (hd : decode cc pc = .ok (.invokestatic idx, 3)) (hw : Cond.methodLink own idx arraycopyName ∈ gw) (hnat : Cond.native arraycopyName ∈ gw) (hst : Cond.static arraycopyName ∈ gw) (hini : Cond.initialized "java/lang/System" ∈ gw) (ha : Ar L N .int a la0) (hb : Ar L N .int b lb) (h1 : ¬ sp < 0) (h2 : ¬ dp < 0) (h3 : ¬ m < 0) (h4 : sp.toNatClampNeg + m.toNatClampNeg ≤ la0) (h5 : dp.toNatClampNeg + m.toNatClampNeg ≤ lb) (hn : nL = ls.length) (hdp : 1 ≤ d) (hr : (st.map fun v => v.category).sum + (nativeFrameWords "java/lang/System" "arraycopy" 5 + 11) ≤ 64) (h : ∀ g', g' = uc g a b sp.toNatClampNeg dp.toNatClampNeg m.toNatClampNeg → J S k n g' (pc + 3) ls st) : J S k n g pc ls (.int m :: .int dp :: .ref b :: .int sp :: .ref a :: st) := by
  intro H locs la hW hV hl
  obtain ⟨a1, ka, a2, a3⟩ := ha
  obtain ⟨b1, kb, b2, b3⟩ := hb
  have e := hS.at (g := g) a1
  rw [a2, ce_int a3] at e
  have e' := hS.at (g := g) b1
  rw [b2, ce_int b3] at e'
  have hsum : ((st.map (mv S.E.ad)).map fun v => v.category).sum = (st.map fun v => v.category).sum := by
    rw [List.map_map]; congr 1; apply List.map_congr_left; intro v _; exact mv_cat _ _
  have hlc := hS.2.2.2.2.2.2.2.2.2.2.2.1
  have hfr := hS.2.2.2.2.2.2.2.2.2.2.1
  refine va_copyi hS.1 hS.2.1 (by rw [hS.2.2.2.2.1, hl.1]; exact hn) hS.2.2.1 (hS.2.2.2.1 _ hw) (hS.2.2.2.1 _ hnat) (hS.2.2.2.1 _ hst) (hS.2.2.2.1 _ hini) hW.2.1 hW.1 (wl_D hW.2.2.1) hV a b 0 0 e e' rfl rfl rfl h1 h2 h3 h4 h5 (fun _ _ => rfl) (Nat.le_trans hdp hfr) (by rw [hsum]; omega) hd ?_
  intro H1 locs1 hP hD hV1
  refine h _ rfl H1 locs1 la ⟨?_, hW.2.1, hW.2.2.1, Nat.le_trans hS.2.2.2.2.2.2.2.2.2.1 hV1.1, hS.2.2.2.2.2.2.1.kept hV1.2.1⟩ hV1 hl
  have e2 : (wl S.E S.L S.N g).set b (S.E.ad b, ce S.E (S.L b) (uc g a b sp.toNatClampNeg dp.toNatClampNeg m.toNatClampNeg b)) = wl S.E S.L S.N (uc g a b sp.toNatClampNeg dp.toNatClampNeg m.toNatClampNeg) := wl_set (fun q hq => by simp [uc, hq])
  rw [← e2, hS.L_eq, b2, ce_int b3, ← hS.L_eq]
  simp only [uc, if_true]
  exact hP
end MemRows
end
section
/-! CALLS, ENTRY, RETURNS, THROWS -/
/-- the class file's entry idx of 'own' names the static method y -/
def MS (own : String) (idx : Nat) (y : MethodName) (bytes : ByteArray) (maxL : Nat) (ret : Option FieldType) (np : Nat) : Prop :=
  Cond.methodLink own idx y ∈ gw ∧ Cond.static y ∈ gw ∧ Cond.initialized y.cls ∈ gw ∧ Cond.code y bytes maxL ret ∈ gw ∧ (y.cls ≠ "java/lang/invoke/MethodHandle" ∧ y.cls ≠ "java/lang/invoke/VarHandle") ∧ (parseMethodDescriptor y.desc).map (fun d => d.parameters.length) = some np
/-- the same, a private one of a nest mate -/
def MN (own : String) (idx : Nat) (y : MethodName) (host : String) (bytes : ByteArray) (maxL : Nat) (ret : Option FieldType) (np : Nat) : Prop :=
  (own, idx, y, host) ∈ nsL ∧ Cond.static y ∈ gw ∧ Cond.initialized y.cls ∈ gw ∧ Cond.code y bytes maxL ret ∈ gw ∧ (y.cls ≠ "java/lang/invoke/MethodHandle" ∧ y.cls ≠ "java/lang/invoke/VarHandle") ∧ (parseMethodDescriptor y.desc).map (fun d => d.parameters.length) = some np
/-- the same, a method of the receiver's own class ci -/
def MV (own : String) (idx ci : Nat) (y : MethodName) (bytes : ByteArray) (maxL : Nat) (ret : Option FieldType) (np : Nat) : Prop :=
  Cond.methodLink own idx y ∈ gw ∧ Cond.instanceMethod y ∈ gw ∧ Cond.selects y.cls y y ∈ gw ∧ Cond.initialized y.cls ∈ gw ∧ Cond.code y bytes maxL ret ∈ gw ∧ (y.cls ≠ "java/lang/invoke/MethodHandle" ∧ y.cls ≠ "java/lang/invoke/VarHandle") ∧ (parseMethodDescriptor y.desc).map (fun d => d.parameters.length) = some np ∧ ∃ (T : u_T) (m : Nat), vwCl[ci]? = some (y.cls, T, m)
section CallRows
variable {S : Sx} {k n : Nat} {g : Mm} {pc : Nat} {ls : List (Option Value)} {st : List Value} {cc : ByteArray} {own : String} {nL d : Nat} {l : Launch} {E : Ey} {L : Nat → Ly} {N : Nat}
theorem len_of {y : MethodName} {np : Nat} (h : (parseMethodDescriptor y.desc).map (fun d => d.parameters.length) = some np) : ∀ sig, parseMethodDescriptor y.desc = some sig → np = sig.parameters.length := by
  intro sig hs
  rw [hs] at h
  exact (Option.some.inj h).symm
theorem Pc_blind {av : List Value} : FrameBlind (fun (v : Array Value) (U : State) => v = (av.map (mv E.ad)).toArray ∧ Wd E L N g U U.heap ∧ Vw E U) :=
  fun a U gf mk h => ⟨h.1, h.2.1.moved (u := U) (U := U.calling gf mk a) (Vm.Alike.refl U.vm), h.2.2.same (u := U) (U := U.calling gf mk a) rfl⟩
theorem cat_sum (ad : Nat → Nat) (st : List Value) : ((st.map (mv ad)).map fun v => v.category).sum = (st.map fun v => v.category).sum := by
  rw [List.map_map]; congr 1; apply List.map_congr_left; intro v _; exact mv_cat _ _
theorem va_S_of {p : Program} {l : Launch} {e : Env} {R : Room} {s : State} {m : MethodId} {args : Array Value} {below : List Frame} {meth : Method} {c : Code} {T : State} {locs : List Loc} {cells slots : Nat} {A : Nat → Prop} (X : Stand p l e R s m args below meth c T locs cells slots) (h : ∀ q ∈ locs, A q.base) : va_S A s.heap T.heap locs := by
  have hs : s.sameButNew ({ T with vm := s.vm } : State) locs cells slots := X.same
  obtain ⟨h1, h2⟩ := vx_frame hs
  exact ⟨h1, fun q hq ha => h2 q hq (fun z hz e => ha (by rw [← e]; exact h z hz)), h⟩
/-- behind a call: the two ways on -/
theorem J_back (hS : Kx S l E L N cc own nL d) {mc ms : Nat} {av : List Value} {X' : String → Mm → Prop} {H : Heap} {locs : List Loc} {la : Array Slot} {a9 : Array Value} (hV : va_S S.E.A S.s.heap H locs) (hl : Lo S.E.ad la ls)
    (hx : ∀ C g', X' C g' → JX S (k + mc) (n + ms) g' pc ls st C)
    (hr : vx_Run S.p S.l S.e S.R S.s S.m S.args S.below S.meth S.c H locs k n mc ms (F0 S.m pc la av) (st.map (mv S.E.ad)) (Qx E L N (fun r g' => J S (k + mc) (n + ms) g' (pc + 3) ls (pu r st)) a9) (Xx E L N X') S.E.A) :
    W S.p S.l S.e S.R S.s S.m S.args S.below S.meth S.c H locs k n S.Z (F0 S.m pc la av) := by
  have hE := hS.E_eq
  have hLq := hS.L_eq
  have hNq := hS.N_eq
  subst hE; subst hLq; subst hNq
  intro T hT X
  rcases hr T hT X with ⟨v, st₀, t, T', Lc, h0, X', hLc, e1, e2, ⟨r, g', hv, hq, hw⟩, stp⟩ | ⟨q, st₀, t, T', Lc, C, ce, h0, X', hLc, e1, e2, ⟨g', hq, hw⟩, hce, hcv, hcl, stp⟩
  · have hA : ∀ z ∈ locs ++ Lc, S.E.A z.base := fun z hz => (List.mem_append.mp hz).elim (hV.2.2 z) (hLc z)
    have hal : t.vm.Alike S.s.vm := by rw [← e2]; exact X'.warmed.alike.symm
    have hw1 : Wd S.E S.L S.N g' S.s T'.heap := by rw [e1]; exact hw.moved hal
    have hv' : v = r.map (mv S.E.ad) := by injection hv
    obtain ⟨t2, a1, b1⟩ := hq T'.heap (locs ++ Lc) la hw1 (va_S_of X' hA) hl T' rfl X'
    refine ⟨t2, stp t2 ?_, b1⟩
    subst hv'
    cases r with
    | none => exact a1
    | some w => exact a1
  · have hA : ∀ z ∈ locs ++ Lc, S.E.A z.base := fun z hz => (List.mem_append.mp hz).elim (hV.2.2 z) (hLc z)
    have hal : t.vm.Alike S.s.vm := by rw [← e2]; exact X'.warmed.alike.symm
    have hw1 : Wd S.E S.L S.N g' S.s T'.heap := by rw [e1]; exact hw.moved hal
    obtain ⟨t2, a1, b1⟩ := hx C g' hq T'.heap (locs ++ Lc) la q ce hw1 (va_S_of X' hA) hl (by rw [e1]; exact hce) hcv hcl T' rfl X'
    exact ⟨t2, stp.trans a1, b1⟩
theorem J_callS (hS : Kx S l E L N cc own nL d) {idx maxL dC mc ms : Nat} {y : MethodName} {bytes : ByteArray} {ret : Option FieldType} {av : List Value} {X' : String → Mm → Prop} (hd : decode cc pc = .ok (.invokestatic idx, 3)) (hm : MS own idx y bytes maxL ret av.length) (hn : nL = ls.length) (hdc : dC + 1 ≤ d) (hml : maxL ≤ 45) (hst : (st.map fun v => v.category).sum ≤ 8) (hrm : k + mc ≤ S.R.cells ∧ n + ms ≤ S.R.slots)
    (hx : ∀ C g', X' C g' → JX S (k + mc) (n + ms) g' pc ls st C)
    (hc : Ct l E L N dC mc ms y av g (fun r g' => J S (k + mc) (n + ms) g' (pc + 3) ls (pu r st)) X') : J S k n g pc ls (av.reverse ++ st) := by
  intro H locs la hW hV hl
  obtain ⟨m1, m2, m3, m4, m5, m6⟩ := hm
  have hlc := hS.2.2.2.2.2.2.2.2.2.2.2.1
  have hfr := hS.2.2.2.2.2.2.2.2.2.2.1
  have hts := hS.2.2.2.1
  have hc' := hc (by rw [← hS.l_eq]; exact hS.2.2.2.2.2.2.2.2.1)
  refine J_back hS (a9 := (av.map (mv S.E.ad)).toArray) hV hl hx ?_
  have hE := hS.E_eq
  have hLq := hS.L_eq
  have hNq := hS.N_eq
  have hlq := hS.l_eq
  subst hE; subst hLq; subst hNq; subst hlq
  refine vx_runS (As := av.map (mv S.E.ad)) (n := av.length) (Ts := gw) ⟨hS.1, hS.2.1, hS.2.2.2.2.1, hS.2.2.1, hts⟩ hc' ⟨⟨rfl, rfl, Nat.le_trans hdc hfr, ?_, pay_in hts gw_good, m4, hts _ m4, hts _ m3, m5, len_of m6, hts _ m1⟩, hts _ m2⟩ ⟨Pc_blind, fun U hU hWm => ⟨rfl, by rw [hU]; exact hW.moved hWm.alike, hS.2.2.2.2.2.2.2.1.warm hWm⟩⟩ rfl (by simp) (by rw [show (F0 S.m pc la ((av.reverse ++ st).map (mv S.E.ad))).locals = la from rfl, hl.1, hn]) (by simp [List.map_reverse]) ?_ hd hrm
  · show 8 + (maxL + 11) + 64 * dC ≤ S.R.locals
    omega
  · show 2 * 0 + _ ≤ 8
    rw [cat_sum]; omega
theorem J_callN (hS : Kx S l E L N cc own nL d) {idx maxL dC : Nat} {y : MethodName} {host : String} {bytes : ByteArray} {ret : Option FieldType} {av : List Value} (hd : decode cc pc = .ok (.invokestatic idx, 3)) (hm : MN own idx y host bytes maxL ret av.length) (hn : nL = ls.length) (hdc : dC + 1 ≤ d) (hml : maxL ≤ 45) (hst : (st.map fun v => v.category).sum ≤ 8) (hrm : k ≤ S.R.cells ∧ n ≤ S.R.slots)
    (hc : Ct l E L N dC 0 0 y av g (fun r g' => J S k n g' (pc + 3) ls (pu r st)) (fun _ _ => False)) : J S k n g pc ls (av.reverse ++ st) := by
  intro H locs la hW hV hl
  obtain ⟨m1, m2, m3, m4, m5, m6⟩ := hm
  have hlc := hS.2.2.2.2.2.2.2.2.2.2.2.1
  have hfr := hS.2.2.2.2.2.2.2.2.2.2.1
  have hts := hS.2.2.2.1
  have hc' := hc (by rw [← hS.l_eq]; exact hS.2.2.2.2.2.2.2.2.1)
  have hM : Met l y gw (rmD dC 0 0) (fun v U => v = (av.map (mv E.ad)).toArray ∧ Wd E L N g U U.heap ∧ Vw E U) (Qx E L N (fun r g' => J S k n g' (pc + 3) ls (pu r st))) 0 0 E.A := by
    intro p e h1 h2 h3 s m args below h4 h5 h6 h7
    obtain ⟨n9, o, q1, q2, q3, q4⟩ := hc' p e h1 h2 h3 s m args below h4 h5 h6 h7
    refine ⟨n9, o, q1, q2, q3, ?_⟩
    rcases q4 with q4 | ⟨q, -, E9, ce, L9, ⟨g9, q9, -⟩, -⟩
    · exact q4
    · exact q9.elim
  refine J_back hS (st := st) (mc := 0) (ms := 0) (a9 := (av.map (mv S.E.ad)).toArray) (X' := fun _ _ => False) hV hl (fun _ _ q => q.elim) ?_
  have hE := hS.E_eq
  have hLq := hS.L_eq
  have hNq := hS.N_eq
  have hlq := hS.l_eq
  subst hE; subst hLq; subst hNq; subst hlq
  have hR := va_runSN (As := av.map (mv S.E.ad)) (n := av.length) (Ts := gw) (host := host) (cells := k) (slots := n) (locs := locs) (H := H) (g := F0 S.m pc la ((av.reverse ++ st).map (mv S.E.ad))) (rest := st.map (mv S.E.ad)) (below := S.below) (meth := S.meth) (e := S.e) (R := S.R) ⟨hS.1, hS.2.1, hS.2.2.2.2.1, hS.2.2.1, hts⟩ hM ⟨⟨⟨rfl, rfl, Nat.le_trans hdc hfr, by show 8 + (maxL + 11) + 64 * dC ≤ S.R.locals; omega, pay_in hts gw_good, m4⟩, hts _ m4, hts _ m3, m5, len_of m6, (hS.2.2.2.2.2.2.2.1.1 _ m1).use rfl⟩, hts _ m2, trivial⟩ ⟨Pc_blind, fun U hU hWm => ⟨rfl, by rw [hU]; exact hW.moved hWm.alike, hS.2.2.2.2.2.2.2.1.warm hWm⟩⟩ rfl (by simp) (by rw [show (F0 S.m pc la ((av.reverse ++ st).map (mv S.E.ad))).locals = la from rfl, hl.1, hn]) (by simp [List.map_reverse]) (by show 2 * 0 + _ ≤ 8; rw [cat_sum]; omega) hd hrm
  intro T hT X
  obtain ⟨v, st₀, t, T', Lc, h0, X', hLc, e1, e2, hq, stp⟩ := hR T hT X
  exact Or.inl ⟨v, st₀, t, T', Lc, h0, X', hLc, e1, e2, hq, stp⟩
theorem J_callV (hS : Kx S l E L N cc own nL d) {idx ci b m9 maxL dC mc ms : Nat} {kd : Nat → Nat} {y : MethodName} {bytes : ByteArray} {ret : Option FieldType} {av : List Value} {X' : String → Mm → Prop} (hd : decode cc pc = .ok (.invokevirtual idx, 3)) (hm : MV own idx ci y bytes maxL ret av.length) (ho : Ob L N ci b m9 kd) (hn : nL = ls.length) (hdc : dC + 1 ≤ d) (hml : maxL ≤ 45) (hst : (st.map fun v => v.category).sum ≤ 8) (hrm : k + mc ≤ S.R.cells ∧ n + ms ≤ S.R.slots)
    (hx : ∀ C g', X' C g' → JX S (k + mc) (n + ms) g' pc ls st C)
    (hc : Ct l E L N dC mc ms y (.ref b :: av) g (fun r g' => J S (k + mc) (n + ms) g' (pc + 3) ls (pu r st)) X') : J S k n g pc ls (av.reverse ++ .ref b :: st) := by
  intro H locs la hW hV hl
  obtain ⟨m1, m2, m3, m4, m5, m6, m7, T9, m8, m10⟩ := hm
  have hlc := hS.2.2.2.2.2.2.2.2.2.2.2.1
  have hfr := hS.2.2.2.2.2.2.2.2.2.2.1
  have hts := hS.2.2.2.1
  have hc' := hc (by rw [← hS.l_eq]; exact hS.2.2.2.2.2.2.2.2.1)
  have e := hS.at (g := g) ho.1
  rw [ho.2, ce_obj] at e
  have hrc := va_recv hW.2.1 hW.1 m10 e
  refine J_back hS (a9 := (Value.ref (S.E.ad b) :: av.map (mv S.E.ad)).toArray) hV hl hx ?_
  have hE := hS.E_eq
  have hLq := hS.L_eq
  have hNq := hS.N_eq
  have hlq := hS.l_eq
  subst hE; subst hLq; subst hNq; subst hlq
  refine vx_runV (As := av.map (mv S.E.ad)) (n := av.length) (Ts := gw) (C := y.cls) (b := S.E.ad b) ⟨hS.1, hS.2.1, hS.2.2.2.2.1, hS.2.2.1, hts⟩ hc' ⟨⟨rfl, rfl, Nat.le_trans hdc hfr, ?_, pay_in hts gw_good, m5, hts _ m5, hts _ m4, m6, len_of m7, hts _ m1⟩, hts _ m2, hts _ m3⟩ ⟨Pc_blind, hrc, fun U hU hWm => ⟨rfl, by rw [hU]; exact hW.moved hWm.alike, hS.2.2.2.2.2.2.2.1.warm hWm⟩⟩ rfl (by simp) (by rw [show (F0 S.m pc la ((av.reverse ++ .ref b :: st).map (mv S.E.ad))).locals = la from rfl, hl.1, hn]) (by simp [List.map_reverse, mv]) ?_ hd hrm
  · show 8 + (maxL + 11) + 64 * dC ≤ S.R.locals
    omega
  · show 2 * 0 + _ ≤ 8
    rw [cat_sum]; omega
theorem J_callS0 (hS : Kx S l E L N cc own nL d) {idx maxL dC mc ms : Nat} {y : MethodName} {bytes : ByteArray} {ret : Option FieldType} {X' : String → Mm → Prop} (hd : decode cc pc = .ok (.invokestatic idx, 3)) (hm : MS own idx y bytes maxL ret 0) (hn : nL = ls.length) (hdc : dC + 1 ≤ d) (hml : maxL ≤ 45) (hst : (st.map fun v => v.category).sum ≤ 8) (hrm : k + mc ≤ S.R.cells ∧ n + ms ≤ S.R.slots)
    (hx : ∀ C g', X' C g' → JX S (k + mc) (n + ms) g' pc ls st C)
    (hc : Ct l E L N dC mc ms y [] g (fun r g' => J S (k + mc) (n + ms) g' (pc + 3) ls (pu r st)) X') : J S k n g pc ls (st) := J_callS hS (av := []) hd hm hn hdc hml hst hrm hx hc
theorem J_callN0 (hS : Kx S l E L N cc own nL d) {idx maxL dC : Nat} {y : MethodName} {host : String} {bytes : ByteArray} {ret : Option FieldType} (hd : decode cc pc = .ok (.invokestatic idx, 3)) (hm : MN own idx y host bytes maxL ret 0) (hn : nL = ls.length) (hdc : dC + 1 ≤ d) (hml : maxL ≤ 45) (hst : (st.map fun v => v.category).sum ≤ 8) (hrm : k ≤ S.R.cells ∧ n ≤ S.R.slots)
    (hc : Ct l E L N dC 0 0 y [] g (fun r g' => J S k n g' (pc + 3) ls (pu r st)) (fun _ _ => False)) : J S k n g pc ls (st) := J_callN hS (av := []) hd hm hn hdc hml hst hrm hc
theorem J_callV0 (hS : Kx S l E L N cc own nL d) {idx ci b m9 maxL dC mc ms : Nat} {kd : Nat → Nat} {y : MethodName} {bytes : ByteArray} {ret : Option FieldType} {X' : String → Mm → Prop} (hd : decode cc pc = .ok (.invokevirtual idx, 3)) (hm : MV own idx ci y bytes maxL ret 0) (ho : Ob L N ci b m9 kd) (hn : nL = ls.length) (hdc : dC + 1 ≤ d) (hml : maxL ≤ 45) (hst : (st.map fun v => v.category).sum ≤ 8) (hrm : k + mc ≤ S.R.cells ∧ n + ms ≤ S.R.slots)
    (hx : ∀ C g', X' C g' → JX S (k + mc) (n + ms) g' pc ls st C)
    (hc : Ct l E L N dC mc ms y (.ref b :: []) g (fun r g' => J S (k + mc) (n + ms) g' (pc + 3) ls (pu r st)) X') : J S k n g pc ls (.ref b :: st) := J_callV hS (av := []) hd hm ho hn hdc hml hst hrm hx hc
theorem J_callS1 (hS : Kx S l E L N cc own nL d) {idx maxL dC mc ms : Nat} {y : MethodName} {bytes : ByteArray} {ret : Option FieldType} {v0 : Value} {X' : String → Mm → Prop} (hd : decode cc pc = .ok (.invokestatic idx, 3)) (hm : MS own idx y bytes maxL ret 1) (hn : nL = ls.length) (hdc : dC + 1 ≤ d) (hml : maxL ≤ 45) (hst : (st.map fun v => v.category).sum ≤ 8) (hrm : k + mc ≤ S.R.cells ∧ n + ms ≤ S.R.slots)
    (hx : ∀ C g', X' C g' → JX S (k + mc) (n + ms) g' pc ls st C)
    (hc : Ct l E L N dC mc ms y [v0] g (fun r g' => J S (k + mc) (n + ms) g' (pc + 3) ls (pu r st)) X') : J S k n g pc ls (v0 :: st) := J_callS hS (av := [v0]) hd hm hn hdc hml hst hrm hx hc
theorem J_callN1 (hS : Kx S l E L N cc own nL d) {idx maxL dC : Nat} {y : MethodName} {host : String} {bytes : ByteArray} {ret : Option FieldType} {v0 : Value} (hd : decode cc pc = .ok (.invokestatic idx, 3)) (hm : MN own idx y host bytes maxL ret 1) (hn : nL = ls.length) (hdc : dC + 1 ≤ d) (hml : maxL ≤ 45) (hst : (st.map fun v => v.category).sum ≤ 8) (hrm : k ≤ S.R.cells ∧ n ≤ S.R.slots)
    (hc : Ct l E L N dC 0 0 y [v0] g (fun r g' => J S k n g' (pc + 3) ls (pu r st)) (fun _ _ => False)) : J S k n g pc ls (v0 :: st) := J_callN hS (av := [v0]) hd hm hn hdc hml hst hrm hc
theorem J_callV1 (hS : Kx S l E L N cc own nL d) {idx ci b m9 maxL dC mc ms : Nat} {kd : Nat → Nat} {y : MethodName} {bytes : ByteArray} {ret : Option FieldType} {v0 : Value} {X' : String → Mm → Prop} (hd : decode cc pc = .ok (.invokevirtual idx, 3)) (hm : MV own idx ci y bytes maxL ret 1) (ho : Ob L N ci b m9 kd) (hn : nL = ls.length) (hdc : dC + 1 ≤ d) (hml : maxL ≤ 45) (hst : (st.map fun v => v.category).sum ≤ 8) (hrm : k + mc ≤ S.R.cells ∧ n + ms ≤ S.R.slots)
    (hx : ∀ C g', X' C g' → JX S (k + mc) (n + ms) g' pc ls st C)
    (hc : Ct l E L N dC mc ms y (.ref b :: [v0]) g (fun r g' => J S (k + mc) (n + ms) g' (pc + 3) ls (pu r st)) X') : J S k n g pc ls (v0 :: .ref b :: st) := J_callV hS (av := [v0]) hd hm ho hn hdc hml hst hrm hx hc
theorem J_callS2 (hS : Kx S l E L N cc own nL d) {idx maxL dC mc ms : Nat} {y : MethodName} {bytes : ByteArray} {ret : Option FieldType} {v0 v1 : Value} {X' : String → Mm → Prop} (hd : decode cc pc = .ok (.invokestatic idx, 3)) (hm : MS own idx y bytes maxL ret 2) (hn : nL = ls.length) (hdc : dC + 1 ≤ d) (hml : maxL ≤ 45) (hst : (st.map fun v => v.category).sum ≤ 8) (hrm : k + mc ≤ S.R.cells ∧ n + ms ≤ S.R.slots)
    (hx : ∀ C g', X' C g' → JX S (k + mc) (n + ms) g' pc ls st C)
    (hc : Ct l E L N dC mc ms y [v0, v1] g (fun r g' => J S (k + mc) (n + ms) g' (pc + 3) ls (pu r st)) X') : J S k n g pc ls (v1 :: v0 :: st) := J_callS hS (av := [v0, v1]) hd hm hn hdc hml hst hrm hx hc
theorem J_callN2 (hS : Kx S l E L N cc own nL d) {idx maxL dC : Nat} {y : MethodName} {host : String} {bytes : ByteArray} {ret : Option FieldType} {v0 v1 : Value} (hd : decode cc pc = .ok (.invokestatic idx, 3)) (hm : MN own idx y host bytes maxL ret 2) (hn : nL = ls.length) (hdc : dC + 1 ≤ d) (hml : maxL ≤ 45) (hst : (st.map fun v => v.category).sum ≤ 8) (hrm : k ≤ S.R.cells ∧ n ≤ S.R.slots)
    (hc : Ct l E L N dC 0 0 y [v0, v1] g (fun r g' => J S k n g' (pc + 3) ls (pu r st)) (fun _ _ => False)) : J S k n g pc ls (v1 :: v0 :: st) := J_callN hS (av := [v0, v1]) hd hm hn hdc hml hst hrm hc
theorem J_callV2 (hS : Kx S l E L N cc own nL d) {idx ci b m9 maxL dC mc ms : Nat} {kd : Nat → Nat} {y : MethodName} {bytes : ByteArray} {ret : Option FieldType} {v0 v1 : Value} {X' : String → Mm → Prop} (hd : decode cc pc = .ok (.invokevirtual idx, 3)) (hm : MV own idx ci y bytes maxL ret 2) (ho : Ob L N ci b m9 kd) (hn : nL = ls.length) (hdc : dC + 1 ≤ d) (hml : maxL ≤ 45) (hst : (st.map fun v => v.category).sum ≤ 8) (hrm : k + mc ≤ S.R.cells ∧ n + ms ≤ S.R.slots)
    (hx : ∀ C g', X' C g' → JX S (k + mc) (n + ms) g' pc ls st C)
    (hc : Ct l E L N dC mc ms y (.ref b :: [v0, v1]) g (fun r g' => J S (k + mc) (n + ms) g' (pc + 3) ls (pu r st)) X') : J S k n g pc ls (v1 :: v0 :: .ref b :: st) := J_callV hS (av := [v0, v1]) hd hm ho hn hdc hml hst hrm hx hc
theorem J_callS3 (hS : Kx S l E L N cc own nL d) {idx maxL dC mc ms : Nat} {y : MethodName} {bytes : ByteArray} {ret : Option FieldType} {v0 v1 v2 : Value} {X' : String → Mm → Prop} (hd : decode cc pc = .ok (.invokestatic idx, 3)) (hm : MS own idx y bytes maxL ret 3) (hn : nL = ls.length) (hdc : dC + 1 ≤ d) (hml : maxL ≤ 45) (hst : (st.map fun v => v.category).sum ≤ 8) (hrm : k + mc ≤ S.R.cells ∧ n + ms ≤ S.R.slots)
    (hx : ∀ C g', X' C g' → JX S (k + mc) (n + ms) g' pc ls st C)
    (hc : Ct l E L N dC mc ms y [v0, v1, v2] g (fun r g' => J S (k + mc) (n + ms) g' (pc + 3) ls (pu r st)) X') : J S k n g pc ls (v2 :: v1 :: v0 :: st) := J_callS hS (av := [v0, v1, v2]) hd hm hn hdc hml hst hrm hx hc
theorem J_callN3 (hS : Kx S l E L N cc own nL d) {idx maxL dC : Nat} {y : MethodName} {host : String} {bytes : ByteArray} {ret : Option FieldType} {v0 v1 v2 : Value} (hd : decode cc pc = .ok (.invokestatic idx, 3)) (hm : MN own idx y host bytes maxL ret 3) (hn : nL = ls.length) (hdc : dC + 1 ≤ d) (hml : maxL ≤ 45) (hst : (st.map fun v => v.category).sum ≤ 8) (hrm : k ≤ S.R.cells ∧ n ≤ S.R.slots)
    (hc : Ct l E L N dC 0 0 y [v0, v1, v2] g (fun r g' => J S k n g' (pc + 3) ls (pu r st)) (fun _ _ => False)) : J S k n g pc ls (v2 :: v1 :: v0 :: st) := J_callN hS (av := [v0, v1, v2]) hd hm hn hdc hml hst hrm hc
theorem J_callV3 (hS : Kx S l E L N cc own nL d) {idx ci b m9 maxL dC mc ms : Nat} {kd : Nat → Nat} {y : MethodName} {bytes : ByteArray} {ret : Option FieldType} {v0 v1 v2 : Value} {X' : String → Mm → Prop} (hd : decode cc pc = .ok (.invokevirtual idx, 3)) (hm : MV own idx ci y bytes maxL ret 3) (ho : Ob L N ci b m9 kd) (hn : nL = ls.length) (hdc : dC + 1 ≤ d) (hml : maxL ≤ 45) (hst : (st.map fun v => v.category).sum ≤ 8) (hrm : k + mc ≤ S.R.cells ∧ n + ms ≤ S.R.slots)
    (hx : ∀ C g', X' C g' → JX S (k + mc) (n + ms) g' pc ls st C)
    (hc : Ct l E L N dC mc ms y (.ref b :: [v0, v1, v2]) g (fun r g' => J S (k + mc) (n + ms) g' (pc + 3) ls (pu r st)) X') : J S k n g pc ls (v2 :: v1 :: v0 :: .ref b :: st) := J_callV hS (av := [v0, v1, v2]) hd hm ho hn hdc hml hst hrm hx hc
theorem J_callS4 (hS : Kx S l E L N cc own nL d) {idx maxL dC mc ms : Nat} {y : MethodName} {bytes : ByteArray} {ret : Option FieldType} {v0 v1 v2 v3 : Value} {X' : String → Mm → Prop} (hd : decode cc pc = .ok (.invokestatic idx, 3)) (hm : MS own idx y bytes maxL ret 4) (hn : nL = ls.length) (hdc : dC + 1 ≤ d) (hml : maxL ≤ 45) (hst : (st.map fun v => v.category).sum ≤ 8) (hrm : k + mc ≤ S.R.cells ∧ n + ms ≤ S.R.slots)
    (hx : ∀ C g', X' C g' → JX S (k + mc) (n + ms) g' pc ls st C)
    (hc : Ct l E L N dC mc ms y [v0, v1, v2, v3] g (fun r g' => J S (k + mc) (n + ms) g' (pc + 3) ls (pu r st)) X') : J S k n g pc ls (v3 :: v2 :: v1 :: v0 :: st) := J_callS hS (av := [v0, v1, v2, v3]) hd hm hn hdc hml hst hrm hx hc
theorem J_callN4 (hS : Kx S l E L N cc own nL d) {idx maxL dC : Nat} {y : MethodName} {host : String} {bytes : ByteArray} {ret : Option FieldType} {v0 v1 v2 v3 : Value} (hd : decode cc pc = .ok (.invokestatic idx, 3)) (hm : MN own idx y host bytes maxL ret 4) (hn : nL = ls.length) (hdc : dC + 1 ≤ d) (hml : maxL ≤ 45) (hst : (st.map fun v => v.category).sum ≤ 8) (hrm : k ≤ S.R.cells ∧ n ≤ S.R.slots)
    (hc : Ct l E L N dC 0 0 y [v0, v1, v2, v3] g (fun r g' => J S k n g' (pc + 3) ls (pu r st)) (fun _ _ => False)) : J S k n g pc ls (v3 :: v2 :: v1 :: v0 :: st) := J_callN hS (av := [v0, v1, v2, v3]) hd hm hn hdc hml hst hrm hc
theorem J_callV4 (hS : Kx S l E L N cc own nL d) {idx ci b m9 maxL dC mc ms : Nat} {kd : Nat → Nat} {y : MethodName} {bytes : ByteArray} {ret : Option FieldType} {v0 v1 v2 v3 : Value} {X' : String → Mm → Prop} (hd : decode cc pc = .ok (.invokevirtual idx, 3)) (hm : MV own idx ci y bytes maxL ret 4) (ho : Ob L N ci b m9 kd) (hn : nL = ls.length) (hdc : dC + 1 ≤ d) (hml : maxL ≤ 45) (hst : (st.map fun v => v.category).sum ≤ 8) (hrm : k + mc ≤ S.R.cells ∧ n + ms ≤ S.R.slots)
    (hx : ∀ C g', X' C g' → JX S (k + mc) (n + ms) g' pc ls st C)
    (hc : Ct l E L N dC mc ms y (.ref b :: [v0, v1, v2, v3]) g (fun r g' => J S (k + mc) (n + ms) g' (pc + 3) ls (pu r st)) X') : J S k n g pc ls (v3 :: v2 :: v1 :: v0 :: .ref b :: st) := J_callV hS (av := [v0, v1, v2, v3]) hd hm ho hn hdc hml hst hrm hx hc
theorem J_callS5 (hS : Kx S l E L N cc own nL d) {idx maxL dC mc ms : Nat} {y : MethodName} {bytes : ByteArray} {ret : Option FieldType} {v0 v1 v2 v3 v4 : Value} {X' : String → Mm → Prop} (hd : decode cc pc = .ok (.invokestatic idx, 3)) (hm : MS own idx y bytes maxL ret 5) (hn : nL = ls.length) (hdc : dC + 1 ≤ d) (hml : maxL ≤ 45) (hst : (st.map fun v => v.category).sum ≤ 8) (hrm : k + mc ≤ S.R.cells ∧ n + ms ≤ S.R.slots)
    (hx : ∀ C g', X' C g' → JX S (k + mc) (n + ms) g' pc ls st C)
    (hc : Ct l E L N dC mc ms y [v0, v1, v2, v3, v4] g (fun r g' => J S (k + mc) (n + ms) g' (pc + 3) ls (pu r st)) X') : J S k n g pc ls (v4 :: v3 :: v2 :: v1 :: v0 :: st) := J_callS hS (av := [v0, v1, v2, v3, v4]) hd hm hn hdc hml hst hrm hx hc
theorem J_callN5 (hS : Kx S l E L N cc own nL d) {idx maxL dC : Nat} {y : MethodName} {host : String} {bytes : ByteArray} {ret : Option FieldType} {v0 v1 v2 v3 v4 : Value} (hd : decode cc pc = .ok (.invokestatic idx, 3)) (hm : MN own idx y host bytes maxL ret 5) (hn : nL = ls.length) (hdc : dC + 1 ≤ d) (hml : maxL ≤ 45) (hst : (st.map fun v => v.category).sum ≤ 8) (hrm : k ≤ S.R.cells ∧ n ≤ S.R.slots)
    (hc : Ct l E L N dC 0 0 y [v0, v1, v2, v3, v4] g (fun r g' => J S k n g' (pc + 3) ls (pu r st)) (fun _ _ => False)) : J S k n g pc ls (v4 :: v3 :: v2 :: v1 :: v0 :: st) := J_callN hS (av := [v0, v1, v2, v3, v4]) hd hm hn hdc hml hst hrm hc
theorem J_callV5 (hS : Kx S l E L N cc own nL d) {idx ci b m9 maxL dC mc ms : Nat} {kd : Nat → Nat} {y : MethodName} {bytes : ByteArray} {ret : Option FieldType} {v0 v1 v2 v3 v4 : Value} {X' : String → Mm → Prop} (hd : decode cc pc = .ok (.invokevirtual idx, 3)) (hm : MV own idx ci y bytes maxL ret 5) (ho : Ob L N ci b m9 kd) (hn : nL = ls.length) (hdc : dC + 1 ≤ d) (hml : maxL ≤ 45) (hst : (st.map fun v => v.category).sum ≤ 8) (hrm : k + mc ≤ S.R.cells ∧ n + ms ≤ S.R.slots)
    (hx : ∀ C g', X' C g' → JX S (k + mc) (n + ms) g' pc ls st C)
    (hc : Ct l E L N dC mc ms y (.ref b :: [v0, v1, v2, v3, v4]) g (fun r g' => J S (k + mc) (n + ms) g' (pc + 3) ls (pu r st)) X') : J S k n g pc ls (v4 :: v3 :: v2 :: v1 :: v0 :: .ref b :: st) := J_callV hS (av := [v0, v1, v2, v3, v4]) hd hm ho hn hdc hml hst hrm hx hc
theorem J_callS6 (hS : Kx S l E L N cc own nL d) {idx maxL dC mc ms : Nat} {y : MethodName} {bytes : ByteArray} {ret : Option FieldType} {v0 v1 v2 v3 v4 v5 : Value} {X' : String → Mm → Prop} (hd : decode cc pc = .ok (.invokestatic idx, 3)) (hm : MS own idx y bytes maxL ret 6) (hn : nL = ls.length) (hdc : dC + 1 ≤ d) (hml : maxL ≤ 45) (hst : (st.map fun v => v.category).sum ≤ 8) (hrm : k + mc ≤ S.R.cells ∧ n + ms ≤ S.R.slots)
    (hx : ∀ C g', X' C g' → JX S (k + mc) (n + ms) g' pc ls st C)
    (hc : Ct l E L N dC mc ms y [v0, v1, v2, v3, v4, v5] g (fun r g' => J S (k + mc) (n + ms) g' (pc + 3) ls (pu r st)) X') : J S k n g pc ls (v5 :: v4 :: v3 :: v2 :: v1 :: v0 :: st) := J_callS hS (av := [v0, v1, v2, v3, v4, v5]) hd hm hn hdc hml hst hrm hx hc
theorem J_callN6 (hS : Kx S l E L N cc own nL d) {idx maxL dC : Nat} {y : MethodName} {host : String} {bytes : ByteArray} {ret : Option FieldType} {v0 v1 v2 v3 v4 v5 : Value} (hd : decode cc pc = .ok (.invokestatic idx, 3)) (hm : MN own idx y host bytes maxL ret 6) (hn : nL = ls.length) (hdc : dC + 1 ≤ d) (hml : maxL ≤ 45) (hst : (st.map fun v => v.category).sum ≤ 8) (hrm : k ≤ S.R.cells ∧ n ≤ S.R.slots)
    (hc : Ct l E L N dC 0 0 y [v0, v1, v2, v3, v4, v5] g (fun r g' => J S k n g' (pc + 3) ls (pu r st)) (fun _ _ => False)) : J S k n g pc ls (v5 :: v4 :: v3 :: v2 :: v1 :: v0 :: st) := J_callN hS (av := [v0, v1, v2, v3, v4, v5]) hd hm hn hdc hml hst hrm hc
theorem J_callV6 (hS : Kx S l E L N cc own nL d) {idx ci b m9 maxL dC mc ms : Nat} {kd : Nat → Nat} {y : MethodName} {bytes : ByteArray} {ret : Option FieldType} {v0 v1 v2 v3 v4 v5 : Value} {X' : String → Mm → Prop} (hd : decode cc pc = .ok (.invokevirtual idx, 3)) (hm : MV own idx ci y bytes maxL ret 6) (ho : Ob L N ci b m9 kd) (hn : nL = ls.length) (hdc : dC + 1 ≤ d) (hml : maxL ≤ 45) (hst : (st.map fun v => v.category).sum ≤ 8) (hrm : k + mc ≤ S.R.cells ∧ n + ms ≤ S.R.slots)
    (hx : ∀ C g', X' C g' → JX S (k + mc) (n + ms) g' pc ls st C)
    (hc : Ct l E L N dC mc ms y (.ref b :: [v0, v1, v2, v3, v4, v5]) g (fun r g' => J S (k + mc) (n + ms) g' (pc + 3) ls (pu r st)) X') : J S k n g pc ls (v5 :: v4 :: v3 :: v2 :: v1 :: v0 :: .ref b :: st) := J_callV hS (av := [v0, v1, v2, v3, v4, v5]) hd hm ho hn hdc hml hst hrm hx hc
end CallRows
theorem args_at : ∀ (vs : List Value) (i0 : Nat), (∀ v ∈ vs, v.category = 1) → ∀ (i : Nat) (v : Value), vs[i]? = some v → (i0 + i, v) ∈ lv_args i0 vs
  | [], _, _, i, v, h => by simp at h
  | w :: vs, i0, hc, i, v, h => by
    have h1 : w.category = 1 := hc w List.mem_cons_self
    have e : lv_args i0 (w :: vs) = (i0, w) :: lv_args (i0 + 1) vs := by simp [lv_args, h1]
    rw [e]
    cases i with
    | zero => simp at h; subst h; exact List.mem_cons_self
    | succ i =>
      refine List.mem_cons_of_mem _ ?_
      have := args_at vs (i0 + 1) (fun v hv => hc v (List.mem_cons_of_mem _ hv)) i v (by simpa using h)
      rw [show i0 + (i + 1) = i0 + 1 + i by omega]
      exact this
theorem sl_len : ∀ (vs : List Value), (∀ v ∈ vs, v.category = 1) → (lg_sl vs).length = vs.length
  | [], _ => rfl
  | w :: vs, hc => by
    have h1 : w.category = 1 := hc w List.mem_cons_self
    have ih := sl_len vs (fun v hv => hc v (List.mem_cons_of_mem _ hv))
    have e : lg_sl (w :: vs) = Slot.val w :: lg_sl vs := by simp [lg_sl, h1]
    rw [e]; simp [ih]
/-- THE ENTRY: a contract out of the walk of the body -/
theorem Ct_of {l : Launch} {E : Ey} {L : Nat → Ly} {N d mc ms : Nat} {y : MethodName} {av : List Value} {g : Mm} {Q : Option Value → Mm → Prop} {X : String → Mm → Prop} {cc : ByteArray} {maxL : Nat} {ret : Option FieldType} (hy : plainName y.cls = true) (hw : Cond.code y cc maxL ret ∈ gw) (hc : ∀ v ∈ av, v.category = 1) (hn : av.length ≤ maxL)
    (body : ∀ S : Sx, Kx S l E L N cc y.cls maxL d → Zx S mc ms Q X → S.meth.sig.returnType = ret → (∀ x ∈ S.c.exceptionTable.toList, False) → mc ≤ S.R.cells ∧ ms ≤ S.R.slots → J S 0 0 g 0 (av.map some ++ List.replicate (maxL - av.length) none) []) : Ct l E L N d mc ms y av g Q X := by
  intro htr
  refine MetFree.of_bodyS (code := cc) (maxLocals := maxL) (ret := ret) hy ?_ ?_
  · intro args s m h hn
    obtain ⟨meth, c, h1, h2, h3, h4, h5, h6, -, -⟩ := Cond.code_spec hn (atoms_spec (ws := gw) h _ hw)
    exact ⟨meth, c, h1, h2, h3, h4, h5, h6⟩
  · intro p e s m args below meth c s₁ B hml hP _
    obtain ⟨rfl, hW, hVw⟩ := hP
    have hh0 : s₁.heap = s.heap := by rw [B.state]; rfl
    have hts := atoms_spec (ws := gw) B.pre
    have ht : ∀ x ∈ c.exceptionTable.toList, False := by
      obtain ⟨meth9, c9, h1, h2, -, -, -, -, h7, -⟩ := Cond.code_spec B.named (hts _ hw)
      cases Option.some.inj (h1.symm.trans B.method)
      cases Option.some.inj (h2.symm.trans (Stand.of_body B).code)
      intro x hx
      rw [Array.isEmpty_iff.mp h7] at hx
      cases hx
    have K := body ((p, l, e, (headSpec gw (rmD d mc ms)).room, s), (m, (av.map (mv E.ad)).toArray, below, meth, c), (E, L, N), vx_MQ below (Qx E L N Q) (Xx E L N X) (av.map (mv E.ad)).toArray s mc ms E.A)
      ⟨B.exec, B.bytes, findClass_of_methodNamed B.named, hts, hml, B.notSynchronized, hW.2.2.2.2, hVw, htr, hW.2.2.2.1, Nat.le_refl _, Nat.le_refl _, rfl, rfl, rfl, rfl⟩ rfl B.returns ht ⟨Nat.le_refl _, Nat.le_refl _⟩
    have hcm : ∀ v ∈ av.map (mv E.ad), v.category = 1 := by
      intro v hv
      obtain ⟨w, hw1, hw2⟩ := List.mem_map.mp hv
      rw [← hw2, mv_cat]; exact hc w hw1
    have hlen := sl_len _ hcm
    have hent := lv_entry (av.map (mv E.ad)) (n := maxL) (by rw [hlen]; simpa using hn)
    have hlo : Lo E.ad ((lg_sl (av.map (mv E.ad)) ++ List.replicate (maxL - (lg_sl (av.map (mv E.ad))).length) Slot.unset).toArray) (av.map some ++ List.replicate (maxL - av.length) none) := by
      have key : ∀ (i : Nat) (v : Value), (av.map some ++ List.replicate (maxL - av.length) none)[i]? = some (some v) → av[i]? = some v := by
        intro i v h
        by_cases hi : i < av.length
        · rw [List.getElem?_append_left (by simpa using hi)] at h
          simpa using h
        · rw [List.getElem?_append_right (by simpa using hi)] at h
          simp [List.getElem?_replicate] at h
      refine ⟨?_, hent.2.1, fun i v h => ?_, fun i v h => hc v (List.mem_of_getElem? (key i v h))⟩
      · rw [hent.1]; simp; omega
      · have h1 := args_at (av.map (mv E.ad)) 0 hcm i (mv E.ad v) (by rw [List.getElem?_map, key i v h]; rfl)
        rw [Nat.zero_add] at h1
        exact hent.2.2 _ h1
    have K2 := K s.heap [] _ hW va_S.rf hlo s₁ hh0 (Stand.of_body B)
    rw [lg_entry_eq] at *
    obtain ⟨t, a1, o, b1, b2, b3⟩ := K2
    exact ⟨t, o, a1, b1, b2, b3⟩
section EndRows
variable {S : Sx} {k n : Nat} {g : Mm} {pc : Nat} {ls : List (Option Value)} {st : List Value} {cc : ByteArray} {own : String} {nL d : Nat} {l : Launch} {E : Ey} {L : Nat → Ly} {N mc ms : Nat} {Q : Option Value → Mm → Prop} {X : String → Mm → Prop}
theorem J_iret (hS : Kx S l E L N cc own nL d) (hZ : Zx S mc ms Q X) (hr : S.meth.sig.returnType = some .int) {v : Int32} (hd : decode cc pc = .ok (.ireturn, 1)) (hk : k ≤ mc) (hn : n ≤ ms) (h : Q (some (.int v)) g) : J S k n g pc ls [.int v] := by
  intro H locs la hW hV hl
  rw [hZ]
  refine vx_ret (W.widen (k := mc) (n := ms) hk hn ?_)
  exact W.iret hS.1 hS.2.1 hr (fun t ht hWm => ⟨some (.int v), g, rfl, h, by rw [ht]; exact hW.moved hWm.alike⟩) hV.2.2 hd (hlocks := hS.2.2.2.2.2.1)
theorem J_zret (hS : Kx S l E L N cc own nL d) (hZ : Zx S mc ms Q X) (hr : S.meth.sig.returnType = some .boolean) {v : Int32} (hd : decode cc pc = .ok (.ireturn, 1)) (hv : v = 0 ∨ v = 1) (hk : k ≤ mc) (hn : n ≤ ms) (h : Q (some (.int v)) g) : J S k n g pc ls [.int v] := by
  intro H locs la hW hV hl
  rw [hZ]
  refine vx_ret (W.widen (k := mc) (n := ms) hk hn ?_)
  exact W.zret hS.1 hS.2.1 hr (by rcases hv with e | e <;> subst e <;> rfl) (fun t ht hWm => ⟨some (.int v), g, rfl, h, by rw [ht]; exact hW.moved hWm.alike⟩) hV.2.2 hd (hlocks := hS.2.2.2.2.2.1)
theorem J_vret (hS : Kx S l E L N cc own nL d) (hZ : Zx S mc ms Q X) (hr : S.meth.sig.returnType = none) (hd : decode cc pc = .ok (.return_, 1)) (hk : k ≤ mc) (hn : n ≤ ms) (h : Q none g) : J S k n g pc ls [] := by
  intro H locs la hW hV hl
  rw [hZ]
  refine vx_ret (W.widen (k := mc) (n := ms) hk hn ?_)
  exact W.vret hS.1 hS.2.1 hr (fun t ht hWm => ⟨none, g, rfl, h, by rw [ht]; exact hW.moved hWm.alike⟩) hV.2.2 hd (hlocks := hS.2.2.2.2.2.1)
theorem J_aret (hS : Kx S l E L N cc own nL d) (hZ : Zx S mc ms Q X) {rt : FieldType} (hr : S.meth.sig.returnType = some rt) (hrt : (∃ C, rt = .object C) ∨ ∃ t, rt = .array t) {v : Value} (hv : v = .null ∨ ∃ a, v = .ref a) (hd : decode cc pc = .ok (.areturn, 1)) (hk : k ≤ mc) (hn : n ≤ ms) (h : Q (some v) g) : J S k n g pc ls [v] := by
  intro H locs la hW hV hl
  rw [hZ]
  refine vx_ret (W.widen (k := mc) (n := ms) hk hn ?_)
  exact W.aret hS.1 hS.2.1 hr hrt (by rcases hv with e | ⟨a, e⟩ <;> subst e; exact Or.inl rfl; exact Or.inr ⟨_, rfl⟩) (fun t ht hWm => ⟨some v, g, rfl, h, by rw [ht]; exact hW.moved hWm.alike⟩) hV.2.2 hd (hlocks := hS.2.2.2.2.2.1)
/-- an exception goes on to the caller -/
theorem JX_out (hS : Kx S l E L N cc own nL d) (hZ : Zx S mc ms Q X) (ht : ∀ x ∈ S.c.exceptionTable.toList, False) {C : String} (hk : k ≤ mc) (hn : n ≤ ms) (h : X C g) : JX S k n g pc ls st C := by
  intro H locs la q ce hW hV hl h1 h2 h3
  rw [hZ]
  exact vx_out (fun x hx => (ht x hx).elim) hS.2.2.2.2.2.1 h1 h2 h3 (fun t ht hWm => ⟨g, h, by rw [ht]; exact hW.moved hWm⟩) hV.2.2 hk hn
theorem J_mmax (hS : Kx S l E L N cc own nL d) {idx : Nat} {x y : Int32} (hd : decode cc pc = .ok (.invokestatic idx, 3)) (hw : Cond.methodLink own idx Lib.Math.max.name ∈ gw) (hst : Cond.static Lib.Math.max.name ∈ gw) (hini : Cond.initialized "java/lang/Math" ∈ gw) (hc : Cond.code Lib.Math.max.name Lib.Math.max.code 2 (some .int) ∈ gw) (hn : nL = ls.length) (hdp : 1 ≤ d) (hr : (st.map fun v => v.category).sum ≤ 8) (hrm : k ≤ S.R.cells ∧ n ≤ S.R.slots) (h : J S k n g (pc + 3) ls (.int (if x < y then y else x) :: st)) : J S k n g pc ls (.int y :: .int x :: st) := by
  intro H locs la hW hV hl
  have hlc := hS.2.2.2.2.2.2.2.2.2.2.2.1
  have hfr := hS.2.2.2.2.2.2.2.2.2.2.1
  exact va_mmax hS.1 hS.2.1 (by rw [hS.2.2.2.2.1, hl.1]; exact hn) hS.2.2.1 (hS.2.2.2.1 _ hw) (hS.2.2.2.1 _ hst) (hS.2.2.2.1 _ hini) (hS.2.2.2.1 _ hc) (Nat.le_trans hdp hfr) (by rw [cat_sum]; omega) hrm.1 hrm.2 hd (h H locs la hW hV hl)
theorem J_mmin (hS : Kx S l E L N cc own nL d) {idx : Nat} {x y : Int32} (hd : decode cc pc = .ok (.invokestatic idx, 3)) (hw : Cond.methodLink own idx Lib.Math.min.name ∈ gw) (hst : Cond.static Lib.Math.min.name ∈ gw) (hini : Cond.initialized "java/lang/Math" ∈ gw) (hc : Cond.code Lib.Math.min.name Lib.Math.min.code 2 (some .int) ∈ gw) (hn : nL = ls.length) (hdp : 1 ≤ d) (hr : (st.map fun v => v.category).sum ≤ 8) (hrm : k ≤ S.R.cells ∧ n ≤ S.R.slots) (h : J S k n g (pc + 3) ls (.int (if y < x then y else x) :: st)) : J S k n g pc ls (.int y :: .int x :: st) := by
  intro H locs la hW hV hl
  have hlc := hS.2.2.2.2.2.2.2.2.2.2.2.1
  have hfr := hS.2.2.2.2.2.2.2.2.2.2.1
  exact va_mmin hS.1 hS.2.1 (by rw [hS.2.2.2.2.1, hl.1]; exact hn) hS.2.2.1 (hS.2.2.2.1 _ hw) (hS.2.2.2.1 _ hst) (hS.2.2.2.1 _ hini) (hS.2.2.2.1 _ hc) (Nat.le_trans hdp hfr) (by rw [cat_sum]; omega) hrm.1 hrm.2 hd (h H locs la hW hV hl)
end EndRows
end
section
/-! LINKS: what the class files' entries name (by program) -/
theorem gw_ws {C : String} {T : u_T} {m : Nat} (ps : List Nat) (h : u_ws C T m = ps.filterMap (fun i => tables_1[i]?)) (hg : (u_ws C T m).all goodWord = true) : ∀ w ∈ u_ws C T m, w ∈ gw := by
  intro w hw
  have h1 := List.all_eq_true.mp hg w hw
  rw [h] at hw
  obtain ⟨i, -, hi⟩ := List.mem_filterMap.mp hw
  exact gw_t i hi h1
set_option maxRecDepth 100000 in
theorem wX0 : ∀ w ∈ u_ws RX0 TX0 4, w ∈ gw := gw_ws [267, 269, 271, 273] (by decide +kernel) (by decide +kernel)
set_option maxRecDepth 100000 in
theorem wX1 : ∀ w ∈ u_ws RX1 TX1 7, w ∈ gw := gw_ws [295, 297, 299, 301, 303, 305, 307] (by decide +kernel) (by decide +kernel)
set_option maxRecDepth 100000 in
theorem wX2 : ∀ w ∈ u_ws RX2 TX2 9, w ∈ gw := gw_ws [233, 235, 237, 239, 241, 243, 245, 247, 249] (by decide +kernel) (by decide +kernel)
set_option maxRecDepth 100000 in
theorem wX3 : ∀ w ∈ u_ws RX3 TX3 5, w ∈ gw := gw_ws [137, 139, 141, 143, 145] (by decide +kernel) (by decide +kernel)
set_option maxRecDepth 100000 in
theorem wX4 : ∀ w ∈ u_ws RX4 TX4 4, w ∈ gw := gw_ws [208, 210, 212, 214] (by decide +kernel) (by decide +kernel)
set_option maxRecDepth 100000 in
theorem wX5 : ∀ w ∈ u_ws RX5 TX5 10, w ∈ gw := gw_ws [177, 179, 181, 183, 185, 187, 189, 191, 193, 195] (by decide +kernel) (by decide +kernel)
set_option maxRecDepth 100000 in
theorem wX6 : ∀ w ∈ u_ws RX6 TX6 17, w ∈ gw := gw_ws [81, 83, 85, 87, 89, 91, 93, 95, 97, 99, 101, 103, 105, 107, 109, 111, 113] (by decide +kernel) (by decide +kernel)
set_option maxRecDepth 100000 in
theorem wX7 : ∀ w ∈ u_ws RX7 TX7 18, w ∈ gw := gw_ws [328, 330, 332, 334, 336, 338, 340, 342, 344, 346, 348, 350, 352, 354, 356, 358, 360, 362] (by decide +kernel) (by decide +kernel)
set_option maxRecDepth 100000 in
theorem wX8 : ∀ w ∈ u_ws RX8 TX8 56, w ∈ gw := gw_ws [1369, 1371, 1373, 1375, 1377, 1379, 1381, 1383, 1385, 1387, 1389, 1391, 1393, 1395, 1397, 1399, 1401, 1403, 1405, 1407, 1409, 1411, 1413, 1415, 1417, 1419, 1421, 1423, 1425, 1427, 1429, 1431, 1433, 1435, 1437, 1439, 1441, 1443, 1445, 1447, 1449, 1451, 1453, 1455, 1457, 1459, 1461, 1463, 1465, 1467, 1469, 1471, 1473, 1475, 1477, 1479] (by decide +kernel) (by decide +kernel)
set_option maxRecDepth 100000 in
theorem flX6_9 : FL RX6 9 6 0 17 := ⟨_, _, rfl, by decide, gw_t 37 (by rfl) (by rfl), wX6⟩
set_option maxRecDepth 100000 in
theorem fpX6_9 : FP RX6 9 6 0 17 .int := ⟨_, _, rfl, by decide, gw_t 37 (by rfl) (by rfl), wX6, rfl, by decide +kernel, ⟨tyX6, tyX6_ok⟩, nmX6⟩
set_option maxRecDepth 100000 in
theorem flX7_94 : FL RX7 94 6 0 17 := ⟨_, _, rfl, by decide, gw_t 38 (by rfl) (by rfl), wX6⟩
set_option maxRecDepth 100000 in
theorem fpX7_94 : FP RX7 94 6 0 17 .int := ⟨_, _, rfl, by decide, gw_t 38 (by rfl) (by rfl), wX6, rfl, by decide +kernel, ⟨tyX6, tyX6_ok⟩, nmX6⟩
set_option maxRecDepth 100000 in
theorem flX6_15 : FL RX6 15 6 1 17 := ⟨_, _, rfl, by decide, gw_t 39 (by rfl) (by rfl), wX6⟩
set_option maxRecDepth 100000 in
theorem fpX6_15 : FP RX6 15 6 1 17 .int := ⟨_, _, rfl, by decide, gw_t 39 (by rfl) (by rfl), wX6, rfl, by decide +kernel, ⟨tyX6, tyX6_ok⟩, nmX6⟩
set_option maxRecDepth 100000 in
theorem flX7_97 : FL RX7 97 6 1 17 := ⟨_, _, rfl, by decide, gw_t 40 (by rfl) (by rfl), wX6⟩
set_option maxRecDepth 100000 in
theorem fpX7_97 : FP RX7 97 6 1 17 .int := ⟨_, _, rfl, by decide, gw_t 40 (by rfl) (by rfl), wX6, rfl, by decide +kernel, ⟨tyX6, tyX6_ok⟩, nmX6⟩
set_option maxRecDepth 100000 in
theorem flX6_18 : FL RX6 18 6 2 17 := ⟨_, _, rfl, by decide, gw_t 41 (by rfl) (by rfl), wX6⟩
set_option maxRecDepth 100000 in
theorem fpX6_18 : FP RX6 18 6 2 17 .int := ⟨_, _, rfl, by decide, gw_t 41 (by rfl) (by rfl), wX6, rfl, by decide +kernel, ⟨tyX6, tyX6_ok⟩, nmX6⟩
set_option maxRecDepth 100000 in
theorem flX3_28 : FL RX3 28 6 2 17 := ⟨_, _, rfl, by decide, gw_t 42 (by rfl) (by rfl), wX6⟩
set_option maxRecDepth 100000 in
theorem fpX3_28 : FP RX3 28 6 2 17 .int := ⟨_, _, rfl, by decide, gw_t 42 (by rfl) (by rfl), wX6, rfl, by decide +kernel, ⟨tyX6, tyX6_ok⟩, nmX6⟩
set_option maxRecDepth 100000 in
theorem flX7_184 : FL RX7 184 6 2 17 := ⟨_, _, rfl, by decide, gw_t 43 (by rfl) (by rfl), wX6⟩
set_option maxRecDepth 100000 in
theorem fpX7_184 : FP RX7 184 6 2 17 .int := ⟨_, _, rfl, by decide, gw_t 43 (by rfl) (by rfl), wX6, rfl, by decide +kernel, ⟨tyX6, tyX6_ok⟩, nmX6⟩
set_option maxRecDepth 100000 in
theorem flX6_21 : FL RX6 21 6 3 17 := ⟨_, _, rfl, by decide, gw_t 44 (by rfl) (by rfl), wX6⟩
set_option maxRecDepth 100000 in
theorem fpX6_21 : FP RX6 21 6 3 17 .int := ⟨_, _, rfl, by decide, gw_t 44 (by rfl) (by rfl), wX6, rfl, by decide +kernel, ⟨tyX6, tyX6_ok⟩, nmX6⟩
set_option maxRecDepth 100000 in
theorem flX7_174 : FL RX7 174 6 3 17 := ⟨_, _, rfl, by decide, gw_t 45 (by rfl) (by rfl), wX6⟩
set_option maxRecDepth 100000 in
theorem fpX7_174 : FP RX7 174 6 3 17 .int := ⟨_, _, rfl, by decide, gw_t 45 (by rfl) (by rfl), wX6, rfl, by decide +kernel, ⟨tyX6, tyX6_ok⟩, nmX6⟩
set_option maxRecDepth 100000 in
theorem flX6_24 : FL RX6 24 6 4 17 := ⟨_, _, rfl, by decide, gw_t 46 (by rfl) (by rfl), wX6⟩
set_option maxRecDepth 100000 in
theorem fpX6_24 : FP RX6 24 6 4 17 .int := ⟨_, _, rfl, by decide, gw_t 46 (by rfl) (by rfl), wX6, rfl, by decide +kernel, ⟨tyX6, tyX6_ok⟩, nmX6⟩
set_option maxRecDepth 100000 in
theorem flX5_57 : FL RX5 57 6 4 17 := ⟨_, _, rfl, by decide, gw_t 47 (by rfl) (by rfl), wX6⟩
set_option maxRecDepth 100000 in
theorem fpX5_57 : FP RX5 57 6 4 17 .int := ⟨_, _, rfl, by decide, gw_t 47 (by rfl) (by rfl), wX6, rfl, by decide +kernel, ⟨tyX6, tyX6_ok⟩, nmX6⟩
set_option maxRecDepth 100000 in
theorem flX7_177 : FL RX7 177 6 4 17 := ⟨_, _, rfl, by decide, gw_t 48 (by rfl) (by rfl), wX6⟩
set_option maxRecDepth 100000 in
theorem fpX7_177 : FP RX7 177 6 4 17 .int := ⟨_, _, rfl, by decide, gw_t 48 (by rfl) (by rfl), wX6, rfl, by decide +kernel, ⟨tyX6, tyX6_ok⟩, nmX6⟩
set_option maxRecDepth 100000 in
theorem flX6_27 : FL RX6 27 6 5 17 := ⟨_, _, rfl, by decide, gw_t 49 (by rfl) (by rfl), wX6⟩
set_option maxRecDepth 100000 in
theorem fpX6_27 : FP RX6 27 6 5 17 .int := ⟨_, _, rfl, by decide, gw_t 49 (by rfl) (by rfl), wX6, rfl, by decide +kernel, ⟨tyX6, tyX6_ok⟩, nmX6⟩
set_option maxRecDepth 100000 in
theorem flX7_205 : FL RX7 205 6 5 17 := ⟨_, _, rfl, by decide, gw_t 50 (by rfl) (by rfl), wX6⟩
set_option maxRecDepth 100000 in
theorem fpX7_205 : FP RX7 205 6 5 17 .int := ⟨_, _, rfl, by decide, gw_t 50 (by rfl) (by rfl), wX6, rfl, by decide +kernel, ⟨tyX6, tyX6_ok⟩, nmX6⟩
set_option maxRecDepth 100000 in
theorem flX6_30 : FL RX6 30 6 6 17 := ⟨_, _, rfl, by decide, gw_t 51 (by rfl) (by rfl), wX6⟩
set_option maxRecDepth 100000 in
theorem fpX6_30 : FP RX6 30 6 6 17 .int := ⟨_, _, rfl, by decide, gw_t 51 (by rfl) (by rfl), wX6, rfl, by decide +kernel, ⟨tyX6, tyX6_ok⟩, nmX6⟩
set_option maxRecDepth 100000 in
theorem flX7_114 : FL RX7 114 6 6 17 := ⟨_, _, rfl, by decide, gw_t 52 (by rfl) (by rfl), wX6⟩
set_option maxRecDepth 100000 in
theorem fpX7_114 : FP RX7 114 6 6 17 .int := ⟨_, _, rfl, by decide, gw_t 52 (by rfl) (by rfl), wX6, rfl, by decide +kernel, ⟨tyX6, tyX6_ok⟩, nmX6⟩
set_option maxRecDepth 100000 in
theorem flX6_33 : FL RX6 33 6 7 17 := ⟨_, _, rfl, by decide, gw_t 53 (by rfl) (by rfl), wX6⟩
set_option maxRecDepth 100000 in
theorem flX5_86 : FL RX5 86 6 7 17 := ⟨_, _, rfl, by decide, gw_t 54 (by rfl) (by rfl), wX6⟩
set_option maxRecDepth 100000 in
theorem flX7_127 : FL RX7 127 6 7 17 := ⟨_, _, rfl, by decide, gw_t 55 (by rfl) (by rfl), wX6⟩
set_option maxRecDepth 100000 in
theorem flX6_37 : FL RX6 37 6 8 17 := ⟨_, _, rfl, by decide, gw_t 56 (by rfl) (by rfl), wX6⟩
set_option maxRecDepth 100000 in
theorem flX6_40 : FL RX6 40 6 9 17 := ⟨_, _, rfl, by decide, gw_t 57 (by rfl) (by rfl), wX6⟩
set_option maxRecDepth 100000 in
theorem flX6_43 : FL RX6 43 6 10 17 := ⟨_, _, rfl, by decide, gw_t 58 (by rfl) (by rfl), wX6⟩
set_option maxRecDepth 100000 in
theorem flX3_66 : FL RX3 66 6 10 17 := ⟨_, _, rfl, by decide, gw_t 59 (by rfl) (by rfl), wX6⟩
set_option maxRecDepth 100000 in
theorem flX7_134 : FL RX7 134 6 10 17 := ⟨_, _, rfl, by decide, gw_t 60 (by rfl) (by rfl), wX6⟩
set_option maxRecDepth 100000 in
theorem flX5_103 : FL RX5 103 6 10 17 := ⟨_, _, rfl, by decide, gw_t 61 (by rfl) (by rfl), wX6⟩
set_option maxRecDepth 100000 in
theorem flX6_46 : FL RX6 46 6 11 17 := ⟨_, _, rfl, by decide, gw_t 62 (by rfl) (by rfl), wX6⟩
set_option maxRecDepth 100000 in
theorem flX7_124 : FL RX7 124 6 11 17 := ⟨_, _, rfl, by decide, gw_t 63 (by rfl) (by rfl), wX6⟩
set_option maxRecDepth 100000 in
theorem flX6_49 : FL RX6 49 6 12 17 := ⟨_, _, rfl, by decide, gw_t 64 (by rfl) (by rfl), wX6⟩
set_option maxRecDepth 100000 in
theorem flX4_37 : FL RX4 37 6 12 17 := ⟨_, _, rfl, by decide, gw_t 65 (by rfl) (by rfl), wX6⟩
set_option maxRecDepth 100000 in
theorem flX5_67 : FL RX5 67 6 12 17 := ⟨_, _, rfl, by decide, gw_t 66 (by rfl) (by rfl), wX6⟩
set_option maxRecDepth 100000 in
theorem flX7_137 : FL RX7 137 6 12 17 := ⟨_, _, rfl, by decide, gw_t 67 (by rfl) (by rfl), wX6⟩
set_option maxRecDepth 100000 in
theorem flX6_52 : FL RX6 52 6 13 17 := ⟨_, _, rfl, by decide, gw_t 68 (by rfl) (by rfl), wX6⟩
set_option maxRecDepth 100000 in
theorem flX5_70 : FL RX5 70 6 13 17 := ⟨_, _, rfl, by decide, gw_t 69 (by rfl) (by rfl), wX6⟩
set_option maxRecDepth 100000 in
theorem flX7_140 : FL RX7 140 6 13 17 := ⟨_, _, rfl, by decide, gw_t 70 (by rfl) (by rfl), wX6⟩
set_option maxRecDepth 100000 in
theorem flX6_55 : FL RX6 55 6 14 17 := ⟨_, _, rfl, by decide, gw_t 71 (by rfl) (by rfl), wX6⟩
set_option maxRecDepth 100000 in
theorem flX7_154 : FL RX7 154 6 14 17 := ⟨_, _, rfl, by decide, gw_t 72 (by rfl) (by rfl), wX6⟩
set_option maxRecDepth 100000 in
theorem flX5_126 : FL RX5 126 6 14 17 := ⟨_, _, rfl, by decide, gw_t 73 (by rfl) (by rfl), wX6⟩
set_option maxRecDepth 100000 in
theorem flX6_58 : FL RX6 58 6 15 17 := ⟨_, _, rfl, by decide, gw_t 74 (by rfl) (by rfl), wX6⟩
set_option maxRecDepth 100000 in
theorem flX4_48 : FL RX4 48 6 15 17 := ⟨_, _, rfl, by decide, gw_t 75 (by rfl) (by rfl), wX6⟩
set_option maxRecDepth 100000 in
theorem flX7_164 : FL RX7 164 6 15 17 := ⟨_, _, rfl, by decide, gw_t 76 (by rfl) (by rfl), wX6⟩
set_option maxRecDepth 100000 in
theorem flX5_137 : FL RX5 137 6 15 17 := ⟨_, _, rfl, by decide, gw_t 77 (by rfl) (by rfl), wX6⟩
set_option maxRecDepth 100000 in
theorem flX6_61 : FL RX6 61 6 16 17 := ⟨_, _, rfl, by decide, gw_t 78 (by rfl) (by rfl), wX6⟩
set_option maxRecDepth 100000 in
theorem flX5_83 : FL RX5 83 6 16 17 := ⟨_, _, rfl, by decide, gw_t 79 (by rfl) (by rfl), wX6⟩
set_option maxRecDepth 100000 in
theorem flX7_269 : FL RX7 269 6 16 17 := ⟨_, _, rfl, by decide, gw_t 80 (by rfl) (by rfl), wX6⟩
set_option maxRecDepth 100000 in
theorem flX3_9 : FL RX3 9 3 0 5 := ⟨_, _, rfl, by decide, gw_t 128 (by rfl) (by rfl), wX3⟩
set_option maxRecDepth 100000 in
theorem fpX3_9 : FP RX3 9 3 0 5 .int := ⟨_, _, rfl, by decide, gw_t 128 (by rfl) (by rfl), wX3, rfl, by decide +kernel, ⟨tyX3, tyX3_ok⟩, nmX3⟩
set_option maxRecDepth 100000 in
theorem flX7_214 : FL RX7 214 3 0 5 := ⟨_, _, rfl, by decide, gw_t 129 (by rfl) (by rfl), wX3⟩
set_option maxRecDepth 100000 in
theorem fpX7_214 : FP RX7 214 3 0 5 .int := ⟨_, _, rfl, by decide, gw_t 129 (by rfl) (by rfl), wX3, rfl, by decide +kernel, ⟨tyX3, tyX3_ok⟩, nmX3⟩
set_option maxRecDepth 100000 in
theorem flX3_15 : FL RX3 15 3 1 5 := ⟨_, _, rfl, by decide, gw_t 130 (by rfl) (by rfl), wX3⟩
set_option maxRecDepth 100000 in
theorem flX3_19 : FL RX3 19 3 2 5 := ⟨_, _, rfl, by decide, gw_t 131 (by rfl) (by rfl), wX3⟩
set_option maxRecDepth 100000 in
theorem flX7_259 : FL RX7 259 3 2 5 := ⟨_, _, rfl, by decide, gw_t 132 (by rfl) (by rfl), wX3⟩
set_option maxRecDepth 100000 in
theorem flX3_22 : FL RX3 22 3 3 5 := ⟨_, _, rfl, by decide, gw_t 133 (by rfl) (by rfl), wX3⟩
set_option maxRecDepth 100000 in
theorem flX7_262 : FL RX7 262 3 3 5 := ⟨_, _, rfl, by decide, gw_t 134 (by rfl) (by rfl), wX3⟩
set_option maxRecDepth 100000 in
theorem flX3_25 : FL RX3 25 3 4 5 := ⟨_, _, rfl, by decide, gw_t 135 (by rfl) (by rfl), wX3⟩
set_option maxRecDepth 100000 in
theorem flX7_348 : FL RX7 348 3 4 5 := ⟨_, _, rfl, by decide, gw_t 136 (by rfl) (by rfl), wX3⟩
set_option maxRecDepth 100000 in
theorem flX5_9 : FL RX5 9 5 0 10 := ⟨_, _, rfl, by decide, gw_t 154 (by rfl) (by rfl), wX5⟩
set_option maxRecDepth 100000 in
theorem fpX5_9 : FP RX5 9 5 0 10 .int := ⟨_, _, rfl, by decide, gw_t 154 (by rfl) (by rfl), wX5, rfl, by decide +kernel, ⟨tyX5, tyX5_ok⟩, nmX5⟩
set_option maxRecDepth 100000 in
theorem flX3_33 : FL RX3 33 5 0 10 := ⟨_, _, rfl, by decide, gw_t 155 (by rfl) (by rfl), wX5⟩
set_option maxRecDepth 100000 in
theorem fpX3_33 : FP RX3 33 5 0 10 .int := ⟨_, _, rfl, by decide, gw_t 155 (by rfl) (by rfl), wX5, rfl, by decide +kernel, ⟨tyX5, tyX5_ok⟩, nmX5⟩
set_option maxRecDepth 100000 in
theorem flX7_414 : FL RX7 414 5 0 10 := ⟨_, _, rfl, by decide, gw_t 156 (by rfl) (by rfl), wX5⟩
set_option maxRecDepth 100000 in
theorem fpX7_414 : FP RX7 414 5 0 10 .int := ⟨_, _, rfl, by decide, gw_t 156 (by rfl) (by rfl), wX5, rfl, by decide +kernel, ⟨tyX5, tyX5_ok⟩, nmX5⟩
set_option maxRecDepth 100000 in
theorem flX5_15 : FL RX5 15 5 1 10 := ⟨_, _, rfl, by decide, gw_t 157 (by rfl) (by rfl), wX5⟩
set_option maxRecDepth 100000 in
theorem fpX5_15 : FP RX5 15 5 1 10 .int := ⟨_, _, rfl, by decide, gw_t 157 (by rfl) (by rfl), wX5, rfl, by decide +kernel, ⟨tyX5, tyX5_ok⟩, nmX5⟩
set_option maxRecDepth 100000 in
theorem flX3_38 : FL RX3 38 5 1 10 := ⟨_, _, rfl, by decide, gw_t 158 (by rfl) (by rfl), wX5⟩
set_option maxRecDepth 100000 in
theorem fpX3_38 : FP RX3 38 5 1 10 .int := ⟨_, _, rfl, by decide, gw_t 158 (by rfl) (by rfl), wX5, rfl, by decide +kernel, ⟨tyX5, tyX5_ok⟩, nmX5⟩
set_option maxRecDepth 100000 in
theorem flX7_407 : FL RX7 407 5 1 10 := ⟨_, _, rfl, by decide, gw_t 159 (by rfl) (by rfl), wX5⟩
set_option maxRecDepth 100000 in
theorem fpX7_407 : FP RX7 407 5 1 10 .int := ⟨_, _, rfl, by decide, gw_t 159 (by rfl) (by rfl), wX5, rfl, by decide +kernel, ⟨tyX5, tyX5_ok⟩, nmX5⟩
set_option maxRecDepth 100000 in
theorem flX5_18 : FL RX5 18 5 2 10 := ⟨_, _, rfl, by decide, gw_t 160 (by rfl) (by rfl), wX5⟩
set_option maxRecDepth 100000 in
theorem flX3_47 : FL RX3 47 5 2 10 := ⟨_, _, rfl, by decide, gw_t 161 (by rfl) (by rfl), wX5⟩
set_option maxRecDepth 100000 in
theorem flX5_22 : FL RX5 22 5 3 10 := ⟨_, _, rfl, by decide, gw_t 162 (by rfl) (by rfl), wX5⟩
set_option maxRecDepth 100000 in
theorem fpX5_22 : FP RX5 22 5 3 10 .int := ⟨_, _, rfl, by decide, gw_t 162 (by rfl) (by rfl), wX5, rfl, by decide +kernel, ⟨tyX5, tyX5_ok⟩, nmX5⟩
set_option maxRecDepth 100000 in
theorem flX3_41 : FL RX3 41 5 3 10 := ⟨_, _, rfl, by decide, gw_t 163 (by rfl) (by rfl), wX5⟩
set_option maxRecDepth 100000 in
theorem fpX3_41 : FP RX3 41 5 3 10 .int := ⟨_, _, rfl, by decide, gw_t 163 (by rfl) (by rfl), wX5, rfl, by decide +kernel, ⟨tyX5, tyX5_ok⟩, nmX5⟩
set_option maxRecDepth 100000 in
theorem flX5_25 : FL RX5 25 5 4 10 := ⟨_, _, rfl, by decide, gw_t 164 (by rfl) (by rfl), wX5⟩
set_option maxRecDepth 100000 in
theorem flX3_50 : FL RX3 50 5 4 10 := ⟨_, _, rfl, by decide, gw_t 165 (by rfl) (by rfl), wX5⟩
set_option maxRecDepth 100000 in
theorem flX5_28 : FL RX5 28 5 5 10 := ⟨_, _, rfl, by decide, gw_t 166 (by rfl) (by rfl), wX5⟩
set_option maxRecDepth 100000 in
theorem fpX5_28 : FP RX5 28 5 5 10 .int := ⟨_, _, rfl, by decide, gw_t 166 (by rfl) (by rfl), wX5, rfl, by decide +kernel, ⟨tyX5, tyX5_ok⟩, nmX5⟩
set_option maxRecDepth 100000 in
theorem flX3_44 : FL RX3 44 5 5 10 := ⟨_, _, rfl, by decide, gw_t 167 (by rfl) (by rfl), wX5⟩
set_option maxRecDepth 100000 in
theorem fpX3_44 : FP RX3 44 5 5 10 .int := ⟨_, _, rfl, by decide, gw_t 167 (by rfl) (by rfl), wX5, rfl, by decide +kernel, ⟨tyX5, tyX5_ok⟩, nmX5⟩
set_option maxRecDepth 100000 in
theorem flX5_31 : FL RX5 31 5 6 10 := ⟨_, _, rfl, by decide, gw_t 168 (by rfl) (by rfl), wX5⟩
set_option maxRecDepth 100000 in
theorem flX3_53 : FL RX3 53 5 6 10 := ⟨_, _, rfl, by decide, gw_t 169 (by rfl) (by rfl), wX5⟩
set_option maxRecDepth 100000 in
theorem flX5_34 : FL RX5 34 5 7 10 := ⟨_, _, rfl, by decide, gw_t 170 (by rfl) (by rfl), wX5⟩
set_option maxRecDepth 100000 in
theorem fpX5_34 : FP RX5 34 5 7 10 .boolean := ⟨_, _, rfl, by decide, gw_t 170 (by rfl) (by rfl), wX5, rfl, by decide +kernel, ⟨tyX5, tyX5_ok⟩, nmX5⟩
set_option maxRecDepth 100000 in
theorem flX3_56 : FL RX3 56 5 7 10 := ⟨_, _, rfl, by decide, gw_t 171 (by rfl) (by rfl), wX5⟩
set_option maxRecDepth 100000 in
theorem fpX3_56 : FP RX3 56 5 7 10 .boolean := ⟨_, _, rfl, by decide, gw_t 171 (by rfl) (by rfl), wX5, rfl, by decide +kernel, ⟨tyX5, tyX5_ok⟩, nmX5⟩
set_option maxRecDepth 100000 in
theorem flX7_228 : FL RX7 228 5 7 10 := ⟨_, _, rfl, by decide, gw_t 172 (by rfl) (by rfl), wX5⟩
set_option maxRecDepth 100000 in
theorem fpX7_228 : FP RX7 228 5 7 10 .boolean := ⟨_, _, rfl, by decide, gw_t 172 (by rfl) (by rfl), wX5, rfl, by decide +kernel, ⟨tyX5, tyX5_ok⟩, nmX5⟩
set_option maxRecDepth 100000 in
theorem flX5_38 : FL RX5 38 5 8 10 := ⟨_, _, rfl, by decide, gw_t 173 (by rfl) (by rfl), wX5⟩
set_option maxRecDepth 100000 in
theorem fpX5_38 : FP RX5 38 5 8 10 .boolean := ⟨_, _, rfl, by decide, gw_t 173 (by rfl) (by rfl), wX5, rfl, by decide +kernel, ⟨tyX5, tyX5_ok⟩, nmX5⟩
set_option maxRecDepth 100000 in
theorem flX3_60 : FL RX3 60 5 8 10 := ⟨_, _, rfl, by decide, gw_t 174 (by rfl) (by rfl), wX5⟩
set_option maxRecDepth 100000 in
theorem fpX3_60 : FP RX3 60 5 8 10 .boolean := ⟨_, _, rfl, by decide, gw_t 174 (by rfl) (by rfl), wX5, rfl, by decide +kernel, ⟨tyX5, tyX5_ok⟩, nmX5⟩
set_option maxRecDepth 100000 in
theorem flX5_41 : FL RX5 41 5 9 10 := ⟨_, _, rfl, by decide, gw_t 175 (by rfl) (by rfl), wX5⟩
set_option maxRecDepth 100000 in
theorem fpX5_41 : FP RX5 41 5 9 10 .int := ⟨_, _, rfl, by decide, gw_t 175 (by rfl) (by rfl), wX5, rfl, by decide +kernel, ⟨tyX5, tyX5_ok⟩, nmX5⟩
set_option maxRecDepth 100000 in
theorem flX3_63 : FL RX3 63 5 9 10 := ⟨_, _, rfl, by decide, gw_t 176 (by rfl) (by rfl), wX5⟩
set_option maxRecDepth 100000 in
theorem fpX3_63 : FP RX3 63 5 9 10 .int := ⟨_, _, rfl, by decide, gw_t 176 (by rfl) (by rfl), wX5, rfl, by decide +kernel, ⟨tyX5, tyX5_ok⟩, nmX5⟩
set_option maxRecDepth 100000 in
theorem flX4_11 : FL RX4 11 4 0 4 := ⟨_, _, rfl, by decide, gw_t 204 (by rfl) (by rfl), wX4⟩
set_option maxRecDepth 100000 in
theorem flX4_17 : FL RX4 17 4 1 4 := ⟨_, _, rfl, by decide, gw_t 205 (by rfl) (by rfl), wX4⟩
set_option maxRecDepth 100000 in
theorem flX4_20 : FL RX4 20 4 2 4 := ⟨_, _, rfl, by decide, gw_t 206 (by rfl) (by rfl), wX4⟩
set_option maxRecDepth 100000 in
theorem fpX4_20 : FP RX4 20 4 2 4 (.object "YardTalk$Law") := ⟨_, _, rfl, by decide, gw_t 206 (by rfl) (by rfl), wX4, rfl, by decide +kernel, ⟨tyX4, tyX4_ok⟩, nmX4⟩
set_option maxRecDepth 100000 in
theorem flX4_24 : FL RX4 24 4 3 4 := ⟨_, _, rfl, by decide, gw_t 207 (by rfl) (by rfl), wX4⟩
set_option maxRecDepth 100000 in
theorem fpX4_24 : FP RX4 24 4 3 4 .int := ⟨_, _, rfl, by decide, gw_t 207 (by rfl) (by rfl), wX4, rfl, by decide +kernel, ⟨tyX4, tyX4_ok⟩, nmX4⟩
set_option maxRecDepth 100000 in
theorem flX2_9 : FL RX2 9 2 0 9 := ⟨_, _, rfl, by decide, gw_t 223 (by rfl) (by rfl), wX2⟩
set_option maxRecDepth 100000 in
theorem fpX2_9 : FP RX2 9 2 0 9 (.array .int) := ⟨_, _, rfl, by decide, gw_t 223 (by rfl) (by rfl), wX2, rfl, by decide +kernel, ⟨tyX2, tyX2_ok⟩, nmX2⟩
set_option maxRecDepth 100000 in
theorem flX2_15 : FL RX2 15 2 1 9 := ⟨_, _, rfl, by decide, gw_t 224 (by rfl) (by rfl), wX2⟩
set_option maxRecDepth 100000 in
theorem fpX2_15 : FP RX2 15 2 1 9 .int := ⟨_, _, rfl, by decide, gw_t 224 (by rfl) (by rfl), wX2, rfl, by decide +kernel, ⟨tyX2, tyX2_ok⟩, nmX2⟩
set_option maxRecDepth 100000 in
theorem flX2_19 : FL RX2 19 2 2 9 := ⟨_, _, rfl, by decide, gw_t 225 (by rfl) (by rfl), wX2⟩
set_option maxRecDepth 100000 in
theorem fpX2_19 : FP RX2 19 2 2 9 (.object "YardTalk$Law") := ⟨_, _, rfl, by decide, gw_t 225 (by rfl) (by rfl), wX2, rfl, by decide +kernel, ⟨tyX2, tyX2_ok⟩, nmX2⟩
set_option maxRecDepth 100000 in
theorem flX2_23 : FL RX2 23 2 3 9 := ⟨_, _, rfl, by decide, gw_t 226 (by rfl) (by rfl), wX2⟩
set_option maxRecDepth 100000 in
theorem fpX2_23 : FP RX2 23 2 3 9 .int := ⟨_, _, rfl, by decide, gw_t 226 (by rfl) (by rfl), wX2, rfl, by decide +kernel, ⟨tyX2, tyX2_ok⟩, nmX2⟩
set_option maxRecDepth 100000 in
theorem flX2_26 : FL RX2 26 2 4 9 := ⟨_, _, rfl, by decide, gw_t 227 (by rfl) (by rfl), wX2⟩
set_option maxRecDepth 100000 in
theorem fpX2_26 : FP RX2 26 2 4 9 .int := ⟨_, _, rfl, by decide, gw_t 227 (by rfl) (by rfl), wX2, rfl, by decide +kernel, ⟨tyX2, tyX2_ok⟩, nmX2⟩
set_option maxRecDepth 100000 in
theorem flX2_29 : FL RX2 29 2 5 9 := ⟨_, _, rfl, by decide, gw_t 228 (by rfl) (by rfl), wX2⟩
set_option maxRecDepth 100000 in
theorem fpX2_29 : FP RX2 29 2 5 9 .int := ⟨_, _, rfl, by decide, gw_t 228 (by rfl) (by rfl), wX2, rfl, by decide +kernel, ⟨tyX2, tyX2_ok⟩, nmX2⟩
set_option maxRecDepth 100000 in
theorem flX2_32 : FL RX2 32 2 6 9 := ⟨_, _, rfl, by decide, gw_t 229 (by rfl) (by rfl), wX2⟩
set_option maxRecDepth 100000 in
theorem fpX2_32 : FP RX2 32 2 6 9 .int := ⟨_, _, rfl, by decide, gw_t 229 (by rfl) (by rfl), wX2, rfl, by decide +kernel, ⟨tyX2, tyX2_ok⟩, nmX2⟩
set_option maxRecDepth 100000 in
theorem flX2_35 : FL RX2 35 2 7 9 := ⟨_, _, rfl, by decide, gw_t 230 (by rfl) (by rfl), wX2⟩
set_option maxRecDepth 100000 in
theorem fpX2_35 : FP RX2 35 2 7 9 .int := ⟨_, _, rfl, by decide, gw_t 230 (by rfl) (by rfl), wX2, rfl, by decide +kernel, ⟨tyX2, tyX2_ok⟩, nmX2⟩
set_option maxRecDepth 100000 in
theorem flX2_38 : FL RX2 38 2 8 9 := ⟨_, _, rfl, by decide, gw_t 231 (by rfl) (by rfl), wX2⟩
set_option maxRecDepth 100000 in
theorem fpX2_38 : FP RX2 38 2 8 9 .int := ⟨_, _, rfl, by decide, gw_t 231 (by rfl) (by rfl), wX2, rfl, by decide +kernel, ⟨tyX2, tyX2_ok⟩, nmX2⟩
set_option maxRecDepth 100000 in
theorem flX7_201 : FL RX7 201 2 8 9 := ⟨_, _, rfl, by decide, gw_t 232 (by rfl) (by rfl), wX2⟩
set_option maxRecDepth 100000 in
theorem fpX7_201 : FP RX7 201 2 8 9 .int := ⟨_, _, rfl, by decide, gw_t 232 (by rfl) (by rfl), wX2, rfl, by decide +kernel, ⟨tyX2, tyX2_ok⟩, nmX2⟩
set_option maxRecDepth 100000 in
theorem flX0_12 : FL RX0 12 0 0 4 := ⟨_, _, rfl, by decide, gw_t 259 (by rfl) (by rfl), wX0⟩
set_option maxRecDepth 100000 in
theorem flX7_417 : FL RX7 417 0 0 4 := ⟨_, _, rfl, by decide, gw_t 260 (by rfl) (by rfl), wX0⟩
set_option maxRecDepth 100000 in
theorem flX0_18 : FL RX0 18 0 1 4 := ⟨_, _, rfl, by decide, gw_t 261 (by rfl) (by rfl), wX0⟩
set_option maxRecDepth 100000 in
theorem flX7_283 : FL RX7 283 0 1 4 := ⟨_, _, rfl, by decide, gw_t 262 (by rfl) (by rfl), wX0⟩
set_option maxRecDepth 100000 in
theorem flX0_22 : FL RX0 22 0 2 4 := ⟨_, _, rfl, by decide, gw_t 263 (by rfl) (by rfl), wX0⟩
set_option maxRecDepth 100000 in
theorem fpX0_22 : FP RX0 22 0 2 4 .int := ⟨_, _, rfl, by decide, gw_t 263 (by rfl) (by rfl), wX0, rfl, by decide +kernel, ⟨tyX0, tyX0_ok⟩, nmX0⟩
set_option maxRecDepth 100000 in
theorem flX7_420 : FL RX7 420 0 2 4 := ⟨_, _, rfl, by decide, gw_t 264 (by rfl) (by rfl), wX0⟩
set_option maxRecDepth 100000 in
theorem fpX7_420 : FP RX7 420 0 2 4 .int := ⟨_, _, rfl, by decide, gw_t 264 (by rfl) (by rfl), wX0, rfl, by decide +kernel, ⟨tyX0, tyX0_ok⟩, nmX0⟩
set_option maxRecDepth 100000 in
theorem flX0_26 : FL RX0 26 0 3 4 := ⟨_, _, rfl, by decide, gw_t 265 (by rfl) (by rfl), wX0⟩
set_option maxRecDepth 100000 in
theorem fpX0_26 : FP RX0 26 0 3 4 .int := ⟨_, _, rfl, by decide, gw_t 265 (by rfl) (by rfl), wX0, rfl, by decide +kernel, ⟨tyX0, tyX0_ok⟩, nmX0⟩
set_option maxRecDepth 100000 in
theorem flX7_277 : FL RX7 277 0 3 4 := ⟨_, _, rfl, by decide, gw_t 266 (by rfl) (by rfl), wX0⟩
set_option maxRecDepth 100000 in
theorem fpX7_277 : FP RX7 277 0 3 4 .int := ⟨_, _, rfl, by decide, gw_t 266 (by rfl) (by rfl), wX0, rfl, by decide +kernel, ⟨tyX0, tyX0_ok⟩, nmX0⟩
set_option maxRecDepth 100000 in
theorem flX1_9 : FL RX1 9 1 0 7 := ⟨_, _, rfl, by decide, gw_t 282 (by rfl) (by rfl), wX1⟩
set_option maxRecDepth 100000 in
theorem fpX1_9 : FP RX1 9 1 0 7 .int := ⟨_, _, rfl, by decide, gw_t 282 (by rfl) (by rfl), wX1, rfl, by decide +kernel, ⟨tyX1, tyX1_ok⟩, nmX1⟩
set_option maxRecDepth 100000 in
theorem flX4_55 : FL RX4 55 1 0 7 := ⟨_, _, rfl, by decide, gw_t 283 (by rfl) (by rfl), wX1⟩
set_option maxRecDepth 100000 in
theorem fpX4_55 : FP RX4 55 1 0 7 .int := ⟨_, _, rfl, by decide, gw_t 283 (by rfl) (by rfl), wX1, rfl, by decide +kernel, ⟨tyX1, tyX1_ok⟩, nmX1⟩
set_option maxRecDepth 100000 in
theorem flX7_316 : FL RX7 316 1 0 7 := ⟨_, _, rfl, by decide, gw_t 284 (by rfl) (by rfl), wX1⟩
set_option maxRecDepth 100000 in
theorem fpX7_316 : FP RX7 316 1 0 7 .int := ⟨_, _, rfl, by decide, gw_t 284 (by rfl) (by rfl), wX1, rfl, by decide +kernel, ⟨tyX1, tyX1_ok⟩, nmX1⟩
set_option maxRecDepth 100000 in
theorem flX1_15 : FL RX1 15 1 1 7 := ⟨_, _, rfl, by decide, gw_t 285 (by rfl) (by rfl), wX1⟩
set_option maxRecDepth 100000 in
theorem flX4_64 : FL RX4 64 1 1 7 := ⟨_, _, rfl, by decide, gw_t 286 (by rfl) (by rfl), wX1⟩
set_option maxRecDepth 100000 in
theorem flX1_19 : FL RX1 19 1 2 7 := ⟨_, _, rfl, by decide, gw_t 287 (by rfl) (by rfl), wX1⟩
set_option maxRecDepth 100000 in
theorem flX4_71 : FL RX4 71 1 2 7 := ⟨_, _, rfl, by decide, gw_t 288 (by rfl) (by rfl), wX1⟩
set_option maxRecDepth 100000 in
theorem flX1_22 : FL RX1 22 1 3 7 := ⟨_, _, rfl, by decide, gw_t 289 (by rfl) (by rfl), wX1⟩
set_option maxRecDepth 100000 in
theorem flX4_58 : FL RX4 58 1 3 7 := ⟨_, _, rfl, by decide, gw_t 290 (by rfl) (by rfl), wX1⟩
set_option maxRecDepth 100000 in
theorem flX1_25 : FL RX1 25 1 4 7 := ⟨_, _, rfl, by decide, gw_t 291 (by rfl) (by rfl), wX1⟩
set_option maxRecDepth 100000 in
theorem flX4_61 : FL RX4 61 1 4 7 := ⟨_, _, rfl, by decide, gw_t 292 (by rfl) (by rfl), wX1⟩
set_option maxRecDepth 100000 in
theorem flX1_28 : FL RX1 28 1 5 7 := ⟨_, _, rfl, by decide, gw_t 293 (by rfl) (by rfl), wX1⟩
set_option maxRecDepth 100000 in
theorem flX1_31 : FL RX1 31 1 6 7 := ⟨_, _, rfl, by decide, gw_t 294 (by rfl) (by rfl), wX1⟩
set_option maxRecDepth 100000 in
theorem fpX1_31 : FP RX1 31 1 6 7 .int := ⟨_, _, rfl, by decide, gw_t 294 (by rfl) (by rfl), wX1, rfl, by decide +kernel, ⟨tyX1, tyX1_ok⟩, nmX1⟩
set_option maxRecDepth 100000 in
theorem flX7_10 : FL RX7 10 7 0 18 := ⟨_, _, rfl, by decide, gw_t 310 (by rfl) (by rfl), wX7⟩
set_option maxRecDepth 100000 in
theorem flX7_16 : FL RX7 16 7 1 18 := ⟨_, _, rfl, by decide, gw_t 311 (by rfl) (by rfl), wX7⟩
set_option maxRecDepth 100000 in
theorem flX7_19 : FL RX7 19 7 2 18 := ⟨_, _, rfl, by decide, gw_t 312 (by rfl) (by rfl), wX7⟩
set_option maxRecDepth 100000 in
theorem flX7_25 : FL RX7 25 7 3 18 := ⟨_, _, rfl, by decide, gw_t 313 (by rfl) (by rfl), wX7⟩
set_option maxRecDepth 100000 in
theorem flX7_31 : FL RX7 31 7 4 18 := ⟨_, _, rfl, by decide, gw_t 314 (by rfl) (by rfl), wX7⟩
set_option maxRecDepth 100000 in
theorem flX7_38 : FL RX7 38 7 5 18 := ⟨_, _, rfl, by decide, gw_t 315 (by rfl) (by rfl), wX7⟩
set_option maxRecDepth 100000 in
theorem flX7_45 : FL RX7 45 7 6 18 := ⟨_, _, rfl, by decide, gw_t 316 (by rfl) (by rfl), wX7⟩
set_option maxRecDepth 100000 in
theorem flX7_52 : FL RX7 52 7 7 18 := ⟨_, _, rfl, by decide, gw_t 317 (by rfl) (by rfl), wX7⟩
set_option maxRecDepth 100000 in
theorem flX7_59 : FL RX7 59 7 8 18 := ⟨_, _, rfl, by decide, gw_t 318 (by rfl) (by rfl), wX7⟩
set_option maxRecDepth 100000 in
theorem flX7_63 : FL RX7 63 7 9 18 := ⟨_, _, rfl, by decide, gw_t 319 (by rfl) (by rfl), wX7⟩
set_option maxRecDepth 100000 in
theorem flX7_67 : FL RX7 67 7 10 18 := ⟨_, _, rfl, by decide, gw_t 320 (by rfl) (by rfl), wX7⟩
set_option maxRecDepth 100000 in
theorem flX7_70 : FL RX7 70 7 11 18 := ⟨_, _, rfl, by decide, gw_t 321 (by rfl) (by rfl), wX7⟩
set_option maxRecDepth 100000 in
theorem flX7_73 : FL RX7 73 7 12 18 := ⟨_, _, rfl, by decide, gw_t 322 (by rfl) (by rfl), wX7⟩
set_option maxRecDepth 100000 in
theorem fpX7_73 : FP RX7 73 7 12 18 .int := ⟨_, _, rfl, by decide, gw_t 322 (by rfl) (by rfl), wX7, rfl, by decide +kernel, ⟨tyX7, tyX7_ok⟩, nmX7⟩
set_option maxRecDepth 100000 in
theorem flX7_77 : FL RX7 77 7 13 18 := ⟨_, _, rfl, by decide, gw_t 323 (by rfl) (by rfl), wX7⟩
set_option maxRecDepth 100000 in
theorem fpX7_77 : FP RX7 77 7 13 18 .int := ⟨_, _, rfl, by decide, gw_t 323 (by rfl) (by rfl), wX7, rfl, by decide +kernel, ⟨tyX7, tyX7_ok⟩, nmX7⟩
set_option maxRecDepth 100000 in
theorem flX7_80 : FL RX7 80 7 14 18 := ⟨_, _, rfl, by decide, gw_t 324 (by rfl) (by rfl), wX7⟩
set_option maxRecDepth 100000 in
theorem fpX7_80 : FP RX7 80 7 14 18 .int := ⟨_, _, rfl, by decide, gw_t 324 (by rfl) (by rfl), wX7, rfl, by decide +kernel, ⟨tyX7, tyX7_ok⟩, nmX7⟩
set_option maxRecDepth 100000 in
theorem flX7_83 : FL RX7 83 7 15 18 := ⟨_, _, rfl, by decide, gw_t 325 (by rfl) (by rfl), wX7⟩
set_option maxRecDepth 100000 in
theorem fpX7_83 : FP RX7 83 7 15 18 .int := ⟨_, _, rfl, by decide, gw_t 325 (by rfl) (by rfl), wX7, rfl, by decide +kernel, ⟨tyX7, tyX7_ok⟩, nmX7⟩
set_option maxRecDepth 100000 in
theorem flX7_86 : FL RX7 86 7 16 18 := ⟨_, _, rfl, by decide, gw_t 326 (by rfl) (by rfl), wX7⟩
set_option maxRecDepth 100000 in
theorem fpX7_86 : FP RX7 86 7 16 18 .int := ⟨_, _, rfl, by decide, gw_t 326 (by rfl) (by rfl), wX7, rfl, by decide +kernel, ⟨tyX7, tyX7_ok⟩, nmX7⟩
set_option maxRecDepth 100000 in
theorem flX7_89 : FL RX7 89 7 17 18 := ⟨_, _, rfl, by decide, gw_t 327 (by rfl) (by rfl), wX7⟩
set_option maxRecDepth 100000 in
theorem fpX7_89 : FP RX7 89 7 17 18 .int := ⟨_, _, rfl, by decide, gw_t 327 (by rfl) (by rfl), wX7, rfl, by decide +kernel, ⟨tyX7, tyX7_ok⟩, nmX7⟩
set_option maxRecDepth 100000 in
theorem stX7_387 : Cond.fieldLink RX7 387 "YardTalk" "ROLES" "[I" ∈ gw := gw_t 463 (by rfl) (by rfl)
set_option maxRecDepth 100000 in
theorem stX4_77 : Cond.fieldLink RX4 77 "YardTalk$Ruling" "WITHOUT" "[I" ∈ gw := gw_t 546 (by rfl) (by rfl)
set_option maxRecDepth 100000 in
theorem flX8_1 : FL RX8 1 8 0 56 := ⟨_, _, rfl, by decide, gw_t 1313 (by rfl) (by rfl), wX8⟩
set_option maxRecDepth 100000 in
theorem fpX8_1 : FP RX8 1 8 0 56 .int := ⟨_, _, rfl, by decide, gw_t 1313 (by rfl) (by rfl), wX8, rfl, by decide +kernel, ⟨tyX8, tyX8_ok⟩, nmX8⟩
set_option maxRecDepth 100000 in
theorem flX8_13 : FL RX8 13 8 1 56 := ⟨_, _, rfl, by decide, gw_t 1314 (by rfl) (by rfl), wX8⟩
set_option maxRecDepth 100000 in
theorem flX8_17 : FL RX8 17 8 2 56 := ⟨_, _, rfl, by decide, gw_t 1315 (by rfl) (by rfl), wX8⟩
set_option maxRecDepth 100000 in
theorem flX8_20 : FL RX8 20 8 3 56 := ⟨_, _, rfl, by decide, gw_t 1316 (by rfl) (by rfl), wX8⟩
set_option maxRecDepth 100000 in
theorem fpX8_20 : FP RX8 20 8 3 56 (.array .int) := ⟨_, _, rfl, by decide, gw_t 1316 (by rfl) (by rfl), wX8, rfl, by decide +kernel, ⟨tyX8, tyX8_ok⟩, nmX8⟩
set_option maxRecDepth 100000 in
theorem flX8_135 : FL RX8 135 8 4 56 := ⟨_, _, rfl, by decide, gw_t 1317 (by rfl) (by rfl), wX8⟩
set_option maxRecDepth 100000 in
theorem fpX8_135 : FP RX8 135 8 4 56 .int := ⟨_, _, rfl, by decide, gw_t 1317 (by rfl) (by rfl), wX8, rfl, by decide +kernel, ⟨tyX8, tyX8_ok⟩, nmX8⟩
set_option maxRecDepth 100000 in
theorem flX8_147 : FL RX8 147 8 5 56 := ⟨_, _, rfl, by decide, gw_t 1318 (by rfl) (by rfl), wX8⟩
set_option maxRecDepth 100000 in
theorem fpX8_147 : FP RX8 147 8 5 56 .int := ⟨_, _, rfl, by decide, gw_t 1318 (by rfl) (by rfl), wX8, rfl, by decide +kernel, ⟨tyX8, tyX8_ok⟩, nmX8⟩
set_option maxRecDepth 100000 in
theorem flX8_144 : FL RX8 144 8 6 56 := ⟨_, _, rfl, by decide, gw_t 1319 (by rfl) (by rfl), wX8⟩
set_option maxRecDepth 100000 in
theorem fpX8_144 : FP RX8 144 8 6 56 .int := ⟨_, _, rfl, by decide, gw_t 1319 (by rfl) (by rfl), wX8, rfl, by decide +kernel, ⟨tyX8, tyX8_ok⟩, nmX8⟩
set_option maxRecDepth 100000 in
theorem flX8_138 : FL RX8 138 8 7 56 := ⟨_, _, rfl, by decide, gw_t 1320 (by rfl) (by rfl), wX8⟩
set_option maxRecDepth 100000 in
theorem fpX8_138 : FP RX8 138 8 7 56 .int := ⟨_, _, rfl, by decide, gw_t 1320 (by rfl) (by rfl), wX8, rfl, by decide +kernel, ⟨tyX8, tyX8_ok⟩, nmX8⟩
set_option maxRecDepth 100000 in
theorem flX8_141 : FL RX8 141 8 8 56 := ⟨_, _, rfl, by decide, gw_t 1321 (by rfl) (by rfl), wX8⟩
set_option maxRecDepth 100000 in
theorem fpX8_141 : FP RX8 141 8 8 56 .int := ⟨_, _, rfl, by decide, gw_t 1321 (by rfl) (by rfl), wX8, rfl, by decide +kernel, ⟨tyX8, tyX8_ok⟩, nmX8⟩
set_option maxRecDepth 100000 in
theorem flX8_174 : FL RX8 174 8 9 56 := ⟨_, _, rfl, by decide, gw_t 1322 (by rfl) (by rfl), wX8⟩
set_option maxRecDepth 100000 in
theorem fpX8_174 : FP RX8 174 8 9 56 .int := ⟨_, _, rfl, by decide, gw_t 1322 (by rfl) (by rfl), wX8, rfl, by decide +kernel, ⟨tyX8, tyX8_ok⟩, nmX8⟩
set_option maxRecDepth 100000 in
theorem flX8_171 : FL RX8 171 8 10 56 := ⟨_, _, rfl, by decide, gw_t 1323 (by rfl) (by rfl), wX8⟩
set_option maxRecDepth 100000 in
theorem fpX8_171 : FP RX8 171 8 10 56 .int := ⟨_, _, rfl, by decide, gw_t 1323 (by rfl) (by rfl), wX8, rfl, by decide +kernel, ⟨tyX8, tyX8_ok⟩, nmX8⟩
set_option maxRecDepth 100000 in
theorem flX8_168 : FL RX8 168 8 11 56 := ⟨_, _, rfl, by decide, gw_t 1324 (by rfl) (by rfl), wX8⟩
set_option maxRecDepth 100000 in
theorem fpX8_168 : FP RX8 168 8 11 56 .int := ⟨_, _, rfl, by decide, gw_t 1324 (by rfl) (by rfl), wX8, rfl, by decide +kernel, ⟨tyX8, tyX8_ok⟩, nmX8⟩
set_option maxRecDepth 100000 in
theorem flX8_23 : FL RX8 23 8 12 56 := ⟨_, _, rfl, by decide, gw_t 1325 (by rfl) (by rfl), wX8⟩
set_option maxRecDepth 100000 in
theorem fpX8_23 : FP RX8 23 8 12 56 .int := ⟨_, _, rfl, by decide, gw_t 1325 (by rfl) (by rfl), wX8, rfl, by decide +kernel, ⟨tyX8, tyX8_ok⟩, nmX8⟩
set_option maxRecDepth 100000 in
theorem flX8_26 : FL RX8 26 8 13 56 := ⟨_, _, rfl, by decide, gw_t 1326 (by rfl) (by rfl), wX8⟩
set_option maxRecDepth 100000 in
theorem flX8_29 : FL RX8 29 8 14 56 := ⟨_, _, rfl, by decide, gw_t 1327 (by rfl) (by rfl), wX8⟩
set_option maxRecDepth 100000 in
theorem flX8_32 : FL RX8 32 8 15 56 := ⟨_, _, rfl, by decide, gw_t 1328 (by rfl) (by rfl), wX8⟩
set_option maxRecDepth 100000 in
theorem flX8_35 : FL RX8 35 8 16 56 := ⟨_, _, rfl, by decide, gw_t 1329 (by rfl) (by rfl), wX8⟩
set_option maxRecDepth 100000 in
theorem flX8_38 : FL RX8 38 8 17 56 := ⟨_, _, rfl, by decide, gw_t 1330 (by rfl) (by rfl), wX8⟩
set_option maxRecDepth 100000 in
theorem flX8_41 : FL RX8 41 8 18 56 := ⟨_, _, rfl, by decide, gw_t 1331 (by rfl) (by rfl), wX8⟩
set_option maxRecDepth 100000 in
theorem flX8_44 : FL RX8 44 8 19 56 := ⟨_, _, rfl, by decide, gw_t 1332 (by rfl) (by rfl), wX8⟩
set_option maxRecDepth 100000 in
theorem flX8_47 : FL RX8 47 8 20 56 := ⟨_, _, rfl, by decide, gw_t 1333 (by rfl) (by rfl), wX8⟩
set_option maxRecDepth 100000 in
theorem flX8_240 : FL RX8 240 8 21 56 := ⟨_, _, rfl, by decide, gw_t 1334 (by rfl) (by rfl), wX8⟩
set_option maxRecDepth 100000 in
theorem fpX8_240 : FP RX8 240 8 21 56 .int := ⟨_, _, rfl, by decide, gw_t 1334 (by rfl) (by rfl), wX8, rfl, by decide +kernel, ⟨tyX8, tyX8_ok⟩, nmX8⟩
set_option maxRecDepth 100000 in
theorem flX8_243 : FL RX8 243 8 22 56 := ⟨_, _, rfl, by decide, gw_t 1335 (by rfl) (by rfl), wX8⟩
set_option maxRecDepth 100000 in
theorem fpX8_243 : FP RX8 243 8 22 56 .int := ⟨_, _, rfl, by decide, gw_t 1335 (by rfl) (by rfl), wX8, rfl, by decide +kernel, ⟨tyX8, tyX8_ok⟩, nmX8⟩
set_option maxRecDepth 100000 in
theorem flX8_246 : FL RX8 246 8 23 56 := ⟨_, _, rfl, by decide, gw_t 1336 (by rfl) (by rfl), wX8⟩
set_option maxRecDepth 100000 in
theorem fpX8_246 : FP RX8 246 8 23 56 .int := ⟨_, _, rfl, by decide, gw_t 1336 (by rfl) (by rfl), wX8, rfl, by decide +kernel, ⟨tyX8, tyX8_ok⟩, nmX8⟩
set_option maxRecDepth 100000 in
theorem flX8_249 : FL RX8 249 8 24 56 := ⟨_, _, rfl, by decide, gw_t 1337 (by rfl) (by rfl), wX8⟩
set_option maxRecDepth 100000 in
theorem fpX8_249 : FP RX8 249 8 24 56 .int := ⟨_, _, rfl, by decide, gw_t 1337 (by rfl) (by rfl), wX8, rfl, by decide +kernel, ⟨tyX8, tyX8_ok⟩, nmX8⟩
set_option maxRecDepth 100000 in
theorem flX8_252 : FL RX8 252 8 25 56 := ⟨_, _, rfl, by decide, gw_t 1338 (by rfl) (by rfl), wX8⟩
set_option maxRecDepth 100000 in
theorem fpX8_252 : FP RX8 252 8 25 56 .int := ⟨_, _, rfl, by decide, gw_t 1338 (by rfl) (by rfl), wX8, rfl, by decide +kernel, ⟨tyX8, tyX8_ok⟩, nmX8⟩
set_option maxRecDepth 100000 in
theorem flX8_255 : FL RX8 255 8 26 56 := ⟨_, _, rfl, by decide, gw_t 1339 (by rfl) (by rfl), wX8⟩
set_option maxRecDepth 100000 in
theorem fpX8_255 : FP RX8 255 8 26 56 .int := ⟨_, _, rfl, by decide, gw_t 1339 (by rfl) (by rfl), wX8, rfl, by decide +kernel, ⟨tyX8, tyX8_ok⟩, nmX8⟩
set_option maxRecDepth 100000 in
theorem flX8_50 : FL RX8 50 8 27 56 := ⟨_, _, rfl, by decide, gw_t 1340 (by rfl) (by rfl), wX8⟩
set_option maxRecDepth 100000 in
theorem fpX8_50 : FP RX8 50 8 27 56 .int := ⟨_, _, rfl, by decide, gw_t 1340 (by rfl) (by rfl), wX8, rfl, by decide +kernel, ⟨tyX8, tyX8_ok⟩, nmX8⟩
set_option maxRecDepth 100000 in
theorem flX8_53 : FL RX8 53 8 28 56 := ⟨_, _, rfl, by decide, gw_t 1341 (by rfl) (by rfl), wX8⟩
set_option maxRecDepth 100000 in
theorem flX8_288 : FL RX8 288 8 29 56 := ⟨_, _, rfl, by decide, gw_t 1342 (by rfl) (by rfl), wX8⟩
set_option maxRecDepth 100000 in
theorem fpX8_288 : FP RX8 288 8 29 56 .int := ⟨_, _, rfl, by decide, gw_t 1342 (by rfl) (by rfl), wX8, rfl, by decide +kernel, ⟨tyX8, tyX8_ok⟩, nmX8⟩
set_option maxRecDepth 100000 in
theorem flX8_300 : FL RX8 300 8 30 56 := ⟨_, _, rfl, by decide, gw_t 1343 (by rfl) (by rfl), wX8⟩
set_option maxRecDepth 100000 in
theorem fpX8_300 : FP RX8 300 8 30 56 .int := ⟨_, _, rfl, by decide, gw_t 1343 (by rfl) (by rfl), wX8, rfl, by decide +kernel, ⟨tyX8, tyX8_ok⟩, nmX8⟩
set_option maxRecDepth 100000 in
theorem flX8_317 : FL RX8 317 8 31 56 := ⟨_, _, rfl, by decide, gw_t 1344 (by rfl) (by rfl), wX8⟩
set_option maxRecDepth 100000 in
theorem fpX8_317 : FP RX8 317 8 31 56 .int := ⟨_, _, rfl, by decide, gw_t 1344 (by rfl) (by rfl), wX8, rfl, by decide +kernel, ⟨tyX8, tyX8_ok⟩, nmX8⟩
set_option maxRecDepth 100000 in
theorem flX8_307 : FL RX8 307 8 32 56 := ⟨_, _, rfl, by decide, gw_t 1345 (by rfl) (by rfl), wX8⟩
set_option maxRecDepth 100000 in
theorem fpX8_307 : FP RX8 307 8 32 56 .boolean := ⟨_, _, rfl, by decide, gw_t 1345 (by rfl) (by rfl), wX8, rfl, by decide +kernel, ⟨tyX8, tyX8_ok⟩, nmX8⟩
set_option maxRecDepth 100000 in
theorem flX8_311 : FL RX8 311 8 33 56 := ⟨_, _, rfl, by decide, gw_t 1346 (by rfl) (by rfl), wX8⟩
set_option maxRecDepth 100000 in
theorem fpX8_311 : FP RX8 311 8 33 56 .boolean := ⟨_, _, rfl, by decide, gw_t 1346 (by rfl) (by rfl), wX8, rfl, by decide +kernel, ⟨tyX8, tyX8_ok⟩, nmX8⟩
set_option maxRecDepth 100000 in
theorem flX8_56 : FL RX8 56 8 34 56 := ⟨_, _, rfl, by decide, gw_t 1347 (by rfl) (by rfl), wX8⟩
set_option maxRecDepth 100000 in
theorem flX8_59 : FL RX8 59 8 35 56 := ⟨_, _, rfl, by decide, gw_t 1348 (by rfl) (by rfl), wX8⟩
set_option maxRecDepth 100000 in
theorem flX8_62 : FL RX8 62 8 36 56 := ⟨_, _, rfl, by decide, gw_t 1349 (by rfl) (by rfl), wX8⟩
set_option maxRecDepth 100000 in
theorem flX8_329 : FL RX8 329 8 37 56 := ⟨_, _, rfl, by decide, gw_t 1350 (by rfl) (by rfl), wX8⟩
set_option maxRecDepth 100000 in
theorem fpX8_329 : FP RX8 329 8 37 56 .int := ⟨_, _, rfl, by decide, gw_t 1350 (by rfl) (by rfl), wX8, rfl, by decide +kernel, ⟨tyX8, tyX8_ok⟩, nmX8⟩
set_option maxRecDepth 100000 in
theorem flX8_65 : FL RX8 65 8 38 56 := ⟨_, _, rfl, by decide, gw_t 1351 (by rfl) (by rfl), wX8⟩
set_option maxRecDepth 100000 in
theorem flX8_68 : FL RX8 68 8 39 56 := ⟨_, _, rfl, by decide, gw_t 1352 (by rfl) (by rfl), wX8⟩
set_option maxRecDepth 100000 in
theorem flX8_71 : FL RX8 71 8 40 56 := ⟨_, _, rfl, by decide, gw_t 1353 (by rfl) (by rfl), wX8⟩
set_option maxRecDepth 100000 in
theorem flX8_335 : FL RX8 335 8 41 56 := ⟨_, _, rfl, by decide, gw_t 1354 (by rfl) (by rfl), wX8⟩
set_option maxRecDepth 100000 in
theorem fpX8_335 : FP RX8 335 8 41 56 .int := ⟨_, _, rfl, by decide, gw_t 1354 (by rfl) (by rfl), wX8, rfl, by decide +kernel, ⟨tyX8, tyX8_ok⟩, nmX8⟩
set_option maxRecDepth 100000 in
theorem flX8_74 : FL RX8 74 8 42 56 := ⟨_, _, rfl, by decide, gw_t 1355 (by rfl) (by rfl), wX8⟩
set_option maxRecDepth 100000 in
theorem flX8_338 : FL RX8 338 8 43 56 := ⟨_, _, rfl, by decide, gw_t 1356 (by rfl) (by rfl), wX8⟩
set_option maxRecDepth 100000 in
theorem fpX8_338 : FP RX8 338 8 43 56 .int := ⟨_, _, rfl, by decide, gw_t 1356 (by rfl) (by rfl), wX8, rfl, by decide +kernel, ⟨tyX8, tyX8_ok⟩, nmX8⟩
set_option maxRecDepth 100000 in
theorem flX8_341 : FL RX8 341 8 44 56 := ⟨_, _, rfl, by decide, gw_t 1357 (by rfl) (by rfl), wX8⟩
set_option maxRecDepth 100000 in
theorem fpX8_341 : FP RX8 341 8 44 56 .int := ⟨_, _, rfl, by decide, gw_t 1357 (by rfl) (by rfl), wX8, rfl, by decide +kernel, ⟨tyX8, tyX8_ok⟩, nmX8⟩
set_option maxRecDepth 100000 in
theorem flX8_356 : FL RX8 356 8 45 56 := ⟨_, _, rfl, by decide, gw_t 1358 (by rfl) (by rfl), wX8⟩
set_option maxRecDepth 100000 in
theorem fpX8_356 : FP RX8 356 8 45 56 .int := ⟨_, _, rfl, by decide, gw_t 1358 (by rfl) (by rfl), wX8, rfl, by decide +kernel, ⟨tyX8, tyX8_ok⟩, nmX8⟩
set_option maxRecDepth 100000 in
theorem flX8_77 : FL RX8 77 8 46 56 := ⟨_, _, rfl, by decide, gw_t 1359 (by rfl) (by rfl), wX8⟩
set_option maxRecDepth 100000 in
theorem fpX8_77 : FP RX8 77 8 46 56 .int := ⟨_, _, rfl, by decide, gw_t 1359 (by rfl) (by rfl), wX8, rfl, by decide +kernel, ⟨tyX8, tyX8_ok⟩, nmX8⟩
set_option maxRecDepth 100000 in
theorem flX8_80 : FL RX8 80 8 47 56 := ⟨_, _, rfl, by decide, gw_t 1360 (by rfl) (by rfl), wX8⟩
set_option maxRecDepth 100000 in
theorem flX8_83 : FL RX8 83 8 48 56 := ⟨_, _, rfl, by decide, gw_t 1361 (by rfl) (by rfl), wX8⟩
set_option maxRecDepth 100000 in
theorem flX8_86 : FL RX8 86 8 49 56 := ⟨_, _, rfl, by decide, gw_t 1362 (by rfl) (by rfl), wX8⟩
set_option maxRecDepth 100000 in
theorem flX8_89 : FL RX8 89 8 50 56 := ⟨_, _, rfl, by decide, gw_t 1363 (by rfl) (by rfl), wX8⟩
set_option maxRecDepth 100000 in
theorem flX8_93 : FL RX8 93 8 51 56 := ⟨_, _, rfl, by decide, gw_t 1364 (by rfl) (by rfl), wX8⟩
set_option maxRecDepth 100000 in
theorem flX8_96 : FL RX8 96 8 52 56 := ⟨_, _, rfl, by decide, gw_t 1365 (by rfl) (by rfl), wX8⟩
set_option maxRecDepth 100000 in
theorem flX8_99 : FL RX8 99 8 53 56 := ⟨_, _, rfl, by decide, gw_t 1366 (by rfl) (by rfl), wX8⟩
set_option maxRecDepth 100000 in
theorem flX8_389 : FL RX8 389 8 54 56 := ⟨_, _, rfl, by decide, gw_t 1367 (by rfl) (by rfl), wX8⟩
set_option maxRecDepth 100000 in
theorem fpX8_389 : FP RX8 389 8 54 56 .int := ⟨_, _, rfl, by decide, gw_t 1367 (by rfl) (by rfl), wX8, rfl, by decide +kernel, ⟨tyX8, tyX8_ok⟩, nmX8⟩
set_option maxRecDepth 100000 in
theorem flX8_102 : FL RX8 102 8 55 56 := ⟨_, _, rfl, by decide, gw_t 1368 (by rfl) (by rfl), wX8⟩
set_option maxRecDepth 100000 in
theorem stX8_291 : Cond.fieldLink RX8 291 "YardTalkModel" "PLACES" "[I" ∈ gw := gw_t 1709 (by rfl) (by rfl)
set_option maxRecDepth 100000 in
theorem k_yX7_init : Cond.code yX7_init cX7_init 2 none ∈ gw := gw_t 27 (by rfl) (by rfl)
set_option maxRecDepth 100000 in
theorem k_yX6_init : Cond.code yX6_init cX6_init 1 none ∈ gw := gw_t 35 (by rfl) (by rfl)
set_option maxRecDepth 100000 in
theorem k_yX3_init : Cond.code yX3_init cX3_init 2 none ∈ gw := gw_t 126 (by rfl) (by rfl)
set_option maxRecDepth 100000 in
theorem k_yX5_init : Cond.code yX5_init cX5_init 1 none ∈ gw := gw_t 152 (by rfl) (by rfl)
set_option maxRecDepth 100000 in
theorem k_yX4_init : Cond.code yX4_init cX4_init 1 none ∈ gw := gw_t 202 (by rfl) (by rfl)
set_option maxRecDepth 100000 in
theorem k_yX2_init : Cond.code yX2_init cX2_init 1 none ∈ gw := gw_t 221 (by rfl) (by rfl)
set_option maxRecDepth 100000 in
theorem k_yX0_init : Cond.code yX0_init cX0_init 1 none ∈ gw := gw_t 255 (by rfl) (by rfl)
set_option maxRecDepth 100000 in
theorem k_yX1_init : Cond.code yX1_init cX1_init 1 none ∈ gw := gw_t 280 (by rfl) (by rfl)
set_option maxRecDepth 100000 in
theorem k_yX7_seeds : Cond.code yX7_seeds cX7_seeds 3 none ∈ gw := gw_t 368 (by rfl) (by rfl)
set_option maxRecDepth 100000 in
theorem k_yX7_stopFilm : Cond.code yX7_stopFilm cX7_stopFilm 1 none ∈ gw := gw_t 372 (by rfl) (by rfl)
set_option maxRecDepth 100000 in
theorem k_yX7_feed : Cond.code yX7_feed cX7_feed 6 (some .int) ∈ gw := gw_t 376 (by rfl) (by rfl)
set_option maxRecDepth 100000 in
theorem k_yX7_putBytes : Cond.code yX7_putBytes cX7_putBytes 3 none ∈ gw := gw_t 380 (by rfl) (by rfl)
set_option maxRecDepth 100000 in
theorem k_yX7_fault : Cond.code yX7_fault cX7_fault 1 (some .int) ∈ gw := gw_t 384 (by rfl) (by rfl)
set_option maxRecDepth 100000 in
theorem k_yX7_film : Cond.code yX7_film cX7_film 1 (some .int) ∈ gw := gw_t 388 (by rfl) (by rfl)
set_option maxRecDepth 100000 in
theorem k_yX0_begin : Cond.code yX0_begin cX0_begin 3 none ∈ gw := gw_t 392 (by rfl) (by rfl)
set_option maxRecDepth 100000 in
theorem k_yX6_become : Cond.code yX6_become cX6_become 2 none ∈ gw := gw_t 396 (by rfl) (by rfl)
set_option maxRecDepth 100000 in
theorem k_yX7_end : Cond.code yX7_end cX7_end 2 (some .int) ∈ gw := gw_t 403 (by rfl) (by rfl)
set_option maxRecDepth 100000 in
theorem k_yX7_read : Cond.code yX7_read cX7_read 5 (some .int) ∈ gw := gw_t 407 (by rfl) (by rfl)
set_option maxRecDepth 100000 in
theorem k_yX7_countAlike : Cond.code yX7_countAlike cX7_countAlike 5 (some .int) ∈ gw := gw_t 411 (by rfl) (by rfl)
set_option maxRecDepth 100000 in
theorem k_yX7_lawOf : Cond.code yX7_lawOf cX7_lawOf 2 (some (.object "YardTalk$Law")) ∈ gw := gw_t 416 (by rfl) (by rfl)
set_option maxRecDepth 100000 in
theorem k_yX4_use : Cond.code yX4_use cX4_use 3 none ∈ gw := gw_t 420 (by rfl) (by rfl)
set_option maxRecDepth 100000 in
theorem k_yX3_at : Cond.code yX3_at cX3_at 3 (some .int) ∈ gw := gw_t 424 (by rfl) (by rfl)
set_option maxRecDepth 100000 in
theorem k_yX5_begin : Cond.code yX5_begin cX5_begin 6 none ∈ gw := gw_t 428 (by rfl) (by rfl)
set_option maxRecDepth 100000 in
theorem k_yX5_makeIn : Cond.code yX5_makeIn cX5_makeIn 3 none ∈ gw := gw_t 432 (by rfl) (by rfl)
set_option maxRecDepth 100000 in
theorem k_yX5_sayIn : Cond.code yX5_sayIn cX5_sayIn 3 none ∈ gw := gw_t 436 (by rfl) (by rfl)
set_option maxRecDepth 100000 in
theorem k_yX6_chooseOrder : Cond.code yX6_chooseOrder cX6_chooseOrder 3 (some .int) ∈ gw := gw_t 440 (by rfl) (by rfl)
set_option maxRecDepth 100000 in
theorem k_yX6_heaviestOrder : Cond.code yX6_heaviestOrder cX6_heaviestOrder 6 (some .int) ∈ gw := gw_t 444 (by rfl) (by rfl)
set_option maxRecDepth 100000 in
theorem k_yX6_drawChance : Cond.code yX6_drawChance cX6_drawChance 2 (some .int) ∈ gw := gw_t 448 (by rfl) (by rfl)
set_option maxRecDepth 100000 in
theorem k_yX6_advance : Cond.code yX6_advance cX6_advance 1 (some .int) ∈ gw := gw_t 451 (by rfl) (by rfl)
set_option maxRecDepth 100000 in
theorem k_yX6_pick : Cond.code yX6_pick cX6_pick 2 (some .int) ∈ gw := gw_t 455 (by rfl) (by rfl)
set_option maxRecDepth 100000 in
theorem k_yX5_conceptMeant : Cond.code yX5_conceptMeant cX5_conceptMeant 3 (some .int) ∈ gw := gw_t 459 (by rfl) (by rfl)
set_option maxRecDepth 100000 in
theorem k_yX7_roleAt : Cond.code yX7_roleAt cX7_roleAt 2 (some .int) ∈ gw := gw_t 462 (by rfl) (by rfl)
set_option maxRecDepth 100000 in
theorem k_yX7_conceptOf : Cond.code yX7_conceptOf cX7_conceptOf 2 (some .int) ∈ gw := gw_t 467 (by rfl) (by rfl)
set_option maxRecDepth 100000 in
theorem k_yX6_chooseSign : Cond.code yX6_chooseSign cX6_chooseSign 4 (some .int) ∈ gw := gw_t 471 (by rfl) (by rfl)
set_option maxRecDepth 100000 in
theorem k_yX6_heaviestSign : Cond.code yX6_heaviestSign cX6_heaviestSign 7 (some .int) ∈ gw := gw_t 475 (by rfl) (by rfl)
set_option maxRecDepth 100000 in
theorem k_yX7_signIndex : Cond.code yX7_signIndex cX7_signIndex 3 (some .int) ∈ gw := gw_t 478 (by rfl) (by rfl)
set_option maxRecDepth 100000 in
theorem k_yX5_takeIn : Cond.code yX5_takeIn cX5_takeIn 4 none ∈ gw := gw_t 482 (by rfl) (by rfl)
set_option maxRecDepth 100000 in
theorem k_yX5_guessPart : Cond.code yX5_guessPart cX5_guessPart 8 (some .int) ∈ gw := gw_t 486 (by rfl) (by rfl)
set_option maxRecDepth 100000 in
theorem k_yX6_weightSeen : Cond.code yX6_weightSeen cX6_weightSeen 5 (some .int) ∈ gw := gw_t 490 (by rfl) (by rfl)
set_option maxRecDepth 100000 in
theorem k_yX6_areBothWorn : Cond.code yX6_areBothWorn cX6_areBothWorn 4 (some .boolean) ∈ gw := gw_t 494 (by rfl) (by rfl)
set_option maxRecDepth 100000 in
theorem k_yX5_learnIn : Cond.code yX5_learnIn cX5_learnIn 7 none ∈ gw := gw_t 499 (by rfl) (by rfl)
set_option maxRecDepth 100000 in
theorem k_yX4_ofChild : Cond.code yX4_ofChild cX4_ofChild 3 none ∈ gw := gw_t 503 (by rfl) (by rfl)
set_option maxRecDepth 100000 in
theorem k_yX6_ageNow : Cond.code yX6_ageNow cX6_ageNow 2 (some .int) ∈ gw := gw_t 507 (by rfl) (by rfl)
set_option maxRecDepth 100000 in
theorem k_yX6_yearsHere : Cond.code yX6_yearsHere cX6_yearsHere 2 (some .int) ∈ gw := gw_t 511 (by rfl) (by rfl)
set_option maxRecDepth 100000 in
theorem k_yX4_ofTalk : Cond.code yX4_ofTalk cX4_ofTalk 3 none ∈ gw := gw_t 516 (by rfl) (by rfl)
set_option maxRecDepth 100000 in
theorem k_yX6_seenAs : Cond.code yX6_seenAs cX6_seenAs 3 (some .int) ∈ gw := gw_t 520 (by rfl) (by rfl)
set_option maxRecDepth 100000 in
theorem k_yX5_learnSign : Cond.code yX5_learnSign cX5_learnSign 7 none ∈ gw := gw_t 524 (by rfl) (by rfl)
set_option maxRecDepth 100000 in
theorem k_yX4_valueOf : Cond.code yX4_valueOf cX4_valueOf 6 (some .int) ∈ gw := gw_t 529 (by rfl) (by rfl)
set_option maxRecDepth 100000 in
theorem k_yX1_work : Cond.code yX1_work cX1_work 8 (some .int) ∈ gw := gw_t 533 (by rfl) (by rfl)
set_option maxRecDepth 100000 in
theorem k_yX1_act : Cond.code yX1_act cX1_act 3 (some .int) ∈ gw := gw_t 536 (by rfl) (by rfl)
set_option maxRecDepth 100000 in
theorem k_yX7_keepInBounds : Cond.code yX7_keepInBounds cX7_keepInBounds 1 (some .int) ∈ gw := gw_t 539 (by rfl) (by rfl)
set_option maxRecDepth 100000 in
theorem k_yJ9_min_7cf53 : Cond.code yJ9_min_7cf53 cJ9_min_7cf53 2 (some .int) ∈ gw := gw_t 542 (by rfl) (by rfl)
set_option maxRecDepth 100000 in
theorem k_yJ9_max_7cf53 : Cond.code yJ9_max_7cf53 cJ9_max_7cf53 2 (some .int) ∈ gw := gw_t 545 (by rfl) (by rfl)
set_option maxRecDepth 100000 in
theorem k_yX6_addToSign : Cond.code yX6_addToSign cX6_addToSign 6 none ∈ gw := gw_t 551 (by rfl) (by rfl)
set_option maxRecDepth 100000 in
theorem k_yX5_learnOrder : Cond.code yX5_learnOrder cX5_learnOrder 7 none ∈ gw := gw_t 556 (by rfl) (by rfl)
set_option maxRecDepth 100000 in
theorem k_yX6_addToOrder : Cond.code yX6_addToOrder cX6_addToOrder 5 none ∈ gw := gw_t 560 (by rfl) (by rfl)
set_option maxRecDepth 100000 in
theorem k_yX5_strengthenIn : Cond.code yX5_strengthenIn cX5_strengthenIn 3 none ∈ gw := gw_t 564 (by rfl) (by rfl)
set_option maxRecDepth 100000 in
theorem k_yX3_hasSigns : Cond.code yX3_hasSigns cX3_hasSigns 4 (some .boolean) ∈ gw := gw_t 568 (by rfl) (by rfl)
set_option maxRecDepth 100000 in
theorem k_yX7_image : Cond.code yX7_image cX7_image 1 (some .int) ∈ gw := gw_t 573 (by rfl) (by rfl)
set_option maxRecDepth 100000 in
theorem k_yX7_restore : Cond.code yX7_restore cX7_restore 1 (some .int) ∈ gw := gw_t 577 (by rfl) (by rfl)
set_option maxRecDepth 100000 in
theorem k_yX7_count : Cond.code yX7_count cX7_count 2 (some .int) ∈ gw := gw_t 581 (by rfl) (by rfl)
set_option maxRecDepth 100000 in
theorem k_yX6_countThere : Cond.code yX6_countThere cX6_countThere 4 (some .int) ∈ gw := gw_t 585 (by rfl) (by rfl)
set_option maxRecDepth 100000 in
theorem k_yX6_isThere : Cond.code yX6_isThere cX6_isThere 3 (some .boolean) ∈ gw := gw_t 589 (by rfl) (by rfl)
set_option maxRecDepth 100000 in
theorem k_yX7_come : Cond.code yX7_come cX7_come 4 (some .int) ∈ gw := gw_t 597 (by rfl) (by rfl)
set_option maxRecDepth 100000 in
theorem k_yX7_checkYard : Cond.code yX7_checkYard cX7_checkYard 1 none ∈ gw := gw_t 600 (by rfl) (by rfl)
set_option maxRecDepth 100000 in
theorem k_yX6_arrive : Cond.code yX6_arrive cX6_arrive 5 (some .int) ∈ gw := gw_t 674 (by rfl) (by rfl)
set_option maxRecDepth 100000 in
theorem k_yX6_giveFirstWeights : Cond.code yX6_giveFirstWeights cX6_giveFirstWeights 3 none ∈ gw := gw_t 678 (by rfl) (by rfl)
set_option maxRecDepth 100000 in
theorem k_yX7_leave : Cond.code yX7_leave cX7_leave 2 (some .int) ∈ gw := gw_t 686 (by rfl) (by rfl)
set_option maxRecDepth 100000 in
theorem k_yX7_checkChild : Cond.code yX7_checkChild cX7_checkChild 2 none ∈ gw := gw_t 690 (by rfl) (by rfl)
set_option maxRecDepth 100000 in
theorem k_yX7_visit : Cond.code yX7_visit cX7_visit 4 (some .int) ∈ gw := gw_t 713 (by rfl) (by rfl)
set_option maxRecDepth 100000 in
theorem k_yX7_of : Cond.code yX7_of cX7_of 3 (some .int) ∈ gw := gw_t 720 (by rfl) (by rfl)
set_option maxRecDepth 100000 in
theorem k_yX7_countOrdersHeld : Cond.code yX7_countOrdersHeld cX7_countOrdersHeld 4 (some .int) ∈ gw := gw_t 725 (by rfl) (by rfl)
set_option maxRecDepth 100000 in
theorem k_yX7_useLawInForce : Cond.code yX7_useLawInForce cX7_useLawInForce 1 none ∈ gw := gw_t 729 (by rfl) (by rfl)
set_option maxRecDepth 100000 in
theorem k_yX4_isHeld : Cond.code yX4_isHeld cX4_isHeld 5 (some .boolean) ∈ gw := gw_t 733 (by rfl) (by rfl)
set_option maxRecDepth 100000 in
theorem k_yX7_sign : Cond.code yX7_sign cX7_sign 4 (some .int) ∈ gw := gw_t 744 (by rfl) (by rfl)
set_option maxRecDepth 100000 in
theorem k_yX7_checkConcept : Cond.code yX7_checkConcept cX7_checkConcept 1 none ∈ gw := gw_t 747 (by rfl) (by rfl)
set_option maxRecDepth 100000 in
theorem k_yX7_checkSign : Cond.code yX7_checkSign cX7_checkSign 1 none ∈ gw := gw_t 751 (by rfl) (by rfl)
set_option maxRecDepth 100000 in
theorem k_yX7_order : Cond.code yX7_order cX7_order 3 (some .int) ∈ gw := gw_t 760 (by rfl) (by rfl)
set_option maxRecDepth 100000 in
theorem k_yX7_checkOrder : Cond.code yX7_checkOrder cX7_checkOrder 1 none ∈ gw := gw_t 763 (by rfl) (by rfl)
set_option maxRecDepth 100000 in
theorem k_yX7_holds : Cond.code yX7_holds cX7_holds 3 (some .boolean) ∈ gw := gw_t 771 (by rfl) (by rfl)
set_option maxRecDepth 100000 in
theorem k_yX7_set : Cond.code yX7_set cX7_set 4 (some .int) ∈ gw := gw_t 778 (by rfl) (by rfl)
set_option maxRecDepth 100000 in
theorem k_yX7_years : Cond.code yX7_years cX7_years 2 (some .int) ∈ gw := gw_t 787 (by rfl) (by rfl)
set_option maxRecDepth 100000 in
theorem k_yX7_law : Cond.code yX7_law cX7_law 3 (some .int) ∈ gw := gw_t 811 (by rfl) (by rfl)
set_option maxRecDepth 100000 in
theorem k_yX2_findFault : Cond.code yX2_findFault cX2_findFault 5 (some .int) ∈ gw := gw_t 816 (by rfl) (by rfl)
set_option maxRecDepth 100000 in
theorem k_yX1_clear : Cond.code yX1_clear cX1_clear 1 none ∈ gw := gw_t 821 (by rfl) (by rfl)
set_option maxRecDepth 100000 in
theorem k_yX2_step : Cond.code yX2_step cX2_step 1 none ∈ gw := gw_t 825 (by rfl) (by rfl)
set_option maxRecDepth 100000 in
theorem k_yX2_isDigit : Cond.code yX2_isDigit cX2_isDigit 1 (some .boolean) ∈ gw := gw_t 828 (by rfl) (by rfl)
set_option maxRecDepth 100000 in
theorem k_yX2_readNumber : Cond.code yX2_readNumber cX2_readNumber 1 none ∈ gw := gw_t 832 (by rfl) (by rfl)
set_option maxRecDepth 100000 in
theorem k_yX2_isLetter : Cond.code yX2_isLetter cX2_isLetter 1 (some .boolean) ∈ gw := gw_t 835 (by rfl) (by rfl)
set_option maxRecDepth 100000 in
theorem k_yX2_readClause : Cond.code yX2_readClause cX2_readClause 3 (some .boolean) ∈ gw := gw_t 839 (by rfl) (by rfl)
set_option maxRecDepth 100000 in
theorem k_yX2_clauseWord : Cond.code yX2_clauseWord cX2_clauseWord 1 (some .int) ∈ gw := gw_t 843 (by rfl) (by rfl)
set_option maxRecDepth 100000 in
theorem k_yX2_isAt_ : Cond.code yX2_isAt_ cX2_isAt_ 3 (some .boolean) ∈ gw := gw_t 848 (by rfl) (by rfl)
set_option maxRecDepth 100000 in
theorem k_yJ0_length_8abf5 : Cond.code yJ0_length_8abf5 cJ0_length_8abf5 1 (some .int) ∈ gw := gw_t 852 (by rfl) (by rfl)
set_option maxRecDepth 100000 in
theorem k_yJ0_coder_7d493 : Cond.code yJ0_coder_7d493 cJ0_coder_7d493 1 (some .byte) ∈ gw := gw_t 856 (by rfl) (by rfl)
set_option maxRecDepth 100000 in
theorem k_yJ0_charAt_5068e : Cond.code yJ0_charAt_5068e cJ0_charAt_5068e 2 (some .char) ∈ gw := gw_t 862 (by rfl) (by rfl)
set_option maxRecDepth 100000 in
theorem k_yJ0_isLatin1_aae02 : Cond.code yJ0_isLatin1_aae02 cJ0_isLatin1_aae02 1 (some .boolean) ∈ gw := gw_t 866 (by rfl) (by rfl)
set_option maxRecDepth 100000 in
theorem k_yJ1_charAt_3b067 : Cond.code yJ1_charAt_3b067 cJ1_charAt_3b067 2 (some .char) ∈ gw := gw_t 869 (by rfl) (by rfl)
set_option maxRecDepth 100000 in
theorem k_yJ0_checkIndex_df160 : Cond.code yJ0_checkIndex_df160 cJ0_checkIndex_df160 2 none ∈ gw := gw_t 872 (by rfl) (by rfl)
set_option maxRecDepth 100000 in
theorem k_yJ3_checkIndex_8e157 : Cond.code yJ3_checkIndex_8e157 cJ3_checkIndex_8e157 3 (some .int) ∈ gw := gw_t 877 (by rfl) (by rfl)
set_option maxRecDepth 100000 in
theorem k_yJ2_charAt_3b067 : Cond.code yJ2_charAt_3b067 cJ2_charAt_3b067 2 (some .char) ∈ gw := gw_t 880 (by rfl) (by rfl)
set_option maxRecDepth 100000 in
theorem k_yJ2_checkIndex_2214a : Cond.code yJ2_checkIndex_2214a cJ2_checkIndex_2214a 2 none ∈ gw := gw_t 883 (by rfl) (by rfl)
set_option maxRecDepth 100000 in
theorem k_yJ2_length_9d52b : Cond.code yJ2_length_9d52b cJ2_length_9d52b 1 (some .int) ∈ gw := gw_t 886 (by rfl) (by rfl)
set_option maxRecDepth 100000 in
theorem k_yJ2_getChar_3b067 : Cond.code yJ2_getChar_3b067 cJ2_getChar_3b067 2 (some .char) ∈ gw := gw_t 890 (by rfl) (by rfl)
set_option maxRecDepth 100000 in
theorem k_yX2_refuse : Cond.code yX2_refuse cX2_refuse 2 (some .boolean) ∈ gw := gw_t 903 (by rfl) (by rfl)
set_option maxRecDepth 100000 in
theorem k_yX1_beginClause : Cond.code yX1_beginClause cX1_beginClause 2 none ∈ gw := gw_t 907 (by rfl) (by rfl)
set_option maxRecDepth 100000 in
theorem k_yX2_readSum : Cond.code yX2_readSum cX2_readSum 5 (some .boolean) ∈ gw := gw_t 911 (by rfl) (by rfl)
set_option maxRecDepth 100000 in
theorem k_yX2_readProduct : Cond.code yX2_readProduct cX2_readProduct 5 (some .boolean) ∈ gw := gw_t 915 (by rfl) (by rfl)
set_option maxRecDepth 100000 in
theorem k_yX2_readUnit : Cond.code yX2_readUnit cX2_readUnit 3 (some .boolean) ∈ gw := gw_t 919 (by rfl) (by rfl)
set_option maxRecDepth 100000 in
theorem k_yX1_put : Cond.code yX1_put cX1_put 2 none ∈ gw := gw_t 923 (by rfl) (by rfl)
set_option maxRecDepth 100000 in
theorem k_yX2_isAt : Cond.code yX2_isAt cX2_isAt 2 (some .boolean) ∈ gw := gw_t 927 (by rfl) (by rfl)
set_option maxRecDepth 100000 in
theorem k_yX2_passOpening : Cond.code yX2_passOpening cX2_passOpening 3 (some .boolean) ∈ gw := gw_t 931 (by rfl) (by rfl)
set_option maxRecDepth 100000 in
theorem k_yX2_pass : Cond.code yX2_pass cX2_pass 2 (some .boolean) ∈ gw := gw_t 935 (by rfl) (by rfl)
set_option maxRecDepth 100000 in
theorem k_yX2_readCouple : Cond.code yX2_readCouple cX2_readCouple 4 (some .boolean) ∈ gw := gw_t 940 (by rfl) (by rfl)
set_option maxRecDepth 100000 in
theorem k_yX2_factName : Cond.code yX2_factName cX2_factName 1 (some .int) ∈ gw := gw_t 945 (by rfl) (by rfl)
set_option maxRecDepth 100000 in
theorem k_yX1_closeValue : Cond.code yX1_closeValue cX1_closeValue 1 none ∈ gw := gw_t 955 (by rfl) (by rfl)
set_option maxRecDepth 100000 in
theorem k_yX2_readEither : Cond.code yX2_readEither cX2_readEither 4 (some .boolean) ∈ gw := gw_t 960 (by rfl) (by rfl)
set_option maxRecDepth 100000 in
theorem k_yX2_readBoth : Cond.code yX2_readBoth cX2_readBoth 4 (some .boolean) ∈ gw := gw_t 964 (by rfl) (by rfl)
set_option maxRecDepth 100000 in
theorem k_yX2_readBasic : Cond.code yX2_readBasic cX2_readBasic 3 (some .boolean) ∈ gw := gw_t 968 (by rfl) (by rfl)
set_option maxRecDepth 100000 in
theorem k_yX2_readComparison : Cond.code yX2_readComparison cX2_readComparison 4 (some .boolean) ∈ gw := gw_t 973 (by rfl) (by rfl)
set_option maxRecDepth 100000 in
theorem k_yX1_closeClause : Cond.code yX1_closeClause cX1_closeClause 1 none ∈ gw := gw_t 979 (by rfl) (by rfl)
set_option maxRecDepth 100000 in
theorem k_yX7_force : Cond.code yX7_force cX7_force 3 (some .int) ∈ gw := gw_t 987 (by rfl) (by rfl)
set_option maxRecDepth 100000 in
theorem k_yX7_checkLaw : Cond.code yX7_checkLaw cX7_checkLaw 2 none ∈ gw := gw_t 991 (by rfl) (by rfl)
set_option maxRecDepth 100000 in
theorem k_yX7_talk : Cond.code yX7_talk cX7_talk 6 (some .int) ∈ gw := gw_t 1014 (by rfl) (by rfl)
set_option maxRecDepth 100000 in
theorem k_yX7_isOfFour : Cond.code yX7_isOfFour cX7_isOfFour 1 (some .boolean) ∈ gw := gw_t 1017 (by rfl) (by rfl)
set_option maxRecDepth 100000 in
theorem k_yX6_areTogether : Cond.code yX6_areTogether cX6_areTogether 3 (some .boolean) ∈ gw := gw_t 1022 (by rfl) (by rfl)
set_option maxRecDepth 100000 in
theorem k_yX7_makeNotedTalk : Cond.code yX7_makeNotedTalk cX7_makeNotedTalk 1 none ∈ gw := gw_t 1026 (by rfl) (by rfl)
set_option maxRecDepth 100000 in
theorem k_yX3_write : Cond.code yX3_write cX3_write 5 none ∈ gw := gw_t 1030 (by rfl) (by rfl)
set_option maxRecDepth 100000 in
theorem k_yX3_askWhatIsHeld : Cond.code yX3_askWhatIsHeld cX3_askWhatIsHeld 6 none ∈ gw := gw_t 1034 (by rfl) (by rfl)
set_option maxRecDepth 100000 in
theorem k_yX7_run : Cond.code yX7_run cX7_run 5 (some .int) ∈ gw := gw_t 1042 (by rfl) (by rfl)
set_option maxRecDepth 100000 in
theorem k_yX7_checkRunLength : Cond.code yX7_checkRunLength cX7_checkRunLength 1 none ∈ gw := gw_t 1045 (by rfl) (by rfl)
set_option maxRecDepth 100000 in
theorem k_yX6_gather : Cond.code yX6_gather cX6_gather 5 (some .int) ∈ gw := gw_t 1050 (by rfl) (by rfl)
set_option maxRecDepth 100000 in
theorem k_yX7_drawTalk : Cond.code yX7_drawTalk cX7_drawTalk 8 none ∈ gw := gw_t 1054 (by rfl) (by rfl)
set_option maxRecDepth 100000 in
theorem k_yX6_drawChoice : Cond.code yX6_drawChoice cX6_drawChoice 2 (some .int) ∈ gw := gw_t 1058 (by rfl) (by rfl)
set_option maxRecDepth 100000 in
theorem k_yX7_note : Cond.code yX7_note cX7_note 3 (some .int) ∈ gw := gw_t 1065 (by rfl) (by rfl)
set_option maxRecDepth 100000 in
theorem k_yX7_share : Cond.code yX7_share cX7_share 7 (some .int) ∈ gw := gw_t 1073 (by rfl) (by rfl)
set_option maxRecDepth 100000 in
theorem k_yX7_checkKind : Cond.code yX7_checkKind cX7_checkKind 1 none ∈ gw := gw_t 1076 (by rfl) (by rfl)
set_option maxRecDepth 100000 in
theorem k_yX7_held : Cond.code yX7_held cX7_held 3 (some .int) ∈ gw := gw_t 1084 (by rfl) (by rfl)
set_option maxRecDepth 100000 in
theorem k_yX7_countHolders : Cond.code yX7_countHolders cX7_countHolders 6 (some .int) ∈ gw := gw_t 1088 (by rfl) (by rfl)
set_option maxRecDepth 100000 in
theorem k_yX7_first : Cond.code yX7_first cX7_first 3 (some .int) ∈ gw := gw_t 1096 (by rfl) (by rfl)
set_option maxRecDepth 100000 in
theorem k_yX7_back : Cond.code yX7_back cX7_back 6 (some .int) ∈ gw := gw_t 1103 (by rfl) (by rfl)
set_option maxRecDepth 100000 in
theorem k_yX3_isLearnt : Cond.code yX3_isLearnt cX3_isLearnt 4 (some .boolean) ∈ gw := gw_t 1107 (by rfl) (by rfl)
set_option maxRecDepth 100000 in
theorem k_yX7_uses : Cond.code yX7_uses cX7_uses 3 (some .int) ∈ gw := gw_t 1114 (by rfl) (by rfl)
set_option maxRecDepth 100000 in
theorem k_yX7_seen : Cond.code yX7_seen cX7_seen 3 (some .int) ∈ gw := gw_t 1121 (by rfl) (by rfl)
set_option maxRecDepth 100000 in
theorem k_yX7_gap : Cond.code yX7_gap cX7_gap 3 (some .int) ∈ gw := gw_t 1129 (by rfl) (by rfl)
set_option maxRecDepth 100000 in
theorem k_yX7_checkFilm : Cond.code yX7_checkFilm cX7_checkFilm 2 none ∈ gw := gw_t 1133 (by rfl) (by rfl)
set_option maxRecDepth 100000 in
theorem k_yX7_fits : Cond.code yX7_fits cX7_fits 3 (some .int) ∈ gw := gw_t 1142 (by rfl) (by rfl)
set_option maxRecDepth 100000 in
theorem k_yX7_trial : Cond.code yX7_trial cX7_trial 5 (some .int) ∈ gw := gw_t 1149 (by rfl) (by rfl)
set_option maxRecDepth 100000 in
theorem k_yX7_checkTrial : Cond.code yX7_checkTrial cX7_checkTrial 3 none ∈ gw := gw_t 1152 (by rfl) (by rfl)
set_option maxRecDepth 100000 in
theorem k_yX7_tryOut : Cond.code yX7_tryOut cX7_tryOut 6 (some .int) ∈ gw := gw_t 1156 (by rfl) (by rfl)
set_option maxRecDepth 100000 in
theorem k_yX7_fewest : Cond.code yX7_fewest cX7_fewest 7 (some .int) ∈ gw := gw_t 1163 (by rfl) (by rfl)
set_option maxRecDepth 100000 in
theorem k_yX6_keepFirst : Cond.code yX6_keepFirst cX6_keepFirst 5 none ∈ gw := gw_t 1168 (by rfl) (by rfl)
set_option maxRecDepth 100000 in
theorem k_yX7_needed : Cond.code yX7_needed cX7_needed 8 (some .int) ∈ gw := gw_t 1175 (by rfl) (by rfl)
set_option maxRecDepth 100000 in
theorem k_yX7_unlike : Cond.code yX7_unlike cX7_unlike 3 (some .int) ∈ gw := gw_t 1182 (by rfl) (by rfl)
set_option maxRecDepth 100000 in
theorem k_yX7_countUnlike : Cond.code yX7_countUnlike cX7_countUnlike 5 (some .int) ∈ gw := gw_t 1186 (by rfl) (by rfl)
set_option maxRecDepth 100000 in
theorem k_yX6_orderOfYard : Cond.code yX6_orderOfYard cX6_orderOfYard 7 (some .int) ∈ gw := gw_t 1190 (by rfl) (by rfl)
set_option maxRecDepth 100000 in
theorem k_yX6_signOfYard : Cond.code yX6_signOfYard cX6_signOfYard 8 (some .int) ∈ gw := gw_t 1194 (by rfl) (by rfl)
set_option maxRecDepth 100000 in
theorem k_yX7_meets : Cond.code yX7_meets cX7_meets 5 (some .int) ∈ gw := gw_t 1201 (by rfl) (by rfl)
set_option maxRecDepth 100000 in
theorem k_yX6_takeBackSaying : Cond.code yX6_takeBackSaying cX6_takeBackSaying 2 none ∈ gw := gw_t 1206 (by rfl) (by rfl)
set_option maxRecDepth 100000 in
theorem k_yX7_plain : Cond.code yX7_plain cX7_plain 4 (some .int) ∈ gw := gw_t 1215 (by rfl) (by rfl)
set_option maxRecDepth 100000 in
theorem k_yX7_countSeenAlone : Cond.code yX7_countSeenAlone cX7_countSeenAlone 7 (some .int) ∈ gw := gw_t 1220 (by rfl) (by rfl)
set_option maxRecDepth 100000 in
theorem k_yX6_seenFor : Cond.code yX6_seenFor cX6_seenFor 4 (some .int) ∈ gw := gw_t 1224 (by rfl) (by rfl)
set_option maxRecDepth 100000 in
theorem k_yX7_word : Cond.code yX7_word cX7_word 3 (some .int) ∈ gw := gw_t 1232 (by rfl) (by rfl)
set_option maxRecDepth 100000 in
theorem k_yX7_blurred : Cond.code yX7_blurred cX7_blurred 7 (some .int) ∈ gw := gw_t 1239 (by rfl) (by rfl)
set_option maxRecDepth 100000 in
theorem k_yX7_areBlurred : Cond.code yX7_areBlurred cX7_areBlurred 6 (some .boolean) ∈ gw := gw_t 1243 (by rfl) (by rfl)
set_option maxRecDepth 100000 in
theorem k_yX7_nearest : Cond.code yX7_nearest cX7_nearest 6 (some .int) ∈ gw := gw_t 1250 (by rfl) (by rfl)
set_option maxRecDepth 100000 in
theorem k_yX7_since : Cond.code yX7_since cX7_since 3 (some .int) ∈ gw := gw_t 1257 (by rfl) (by rfl)
set_option maxRecDepth 100000 in
theorem k_yX7_taught : Cond.code yX7_taught cX7_taught 3 (some .int) ∈ gw := gw_t 1264 (by rfl) (by rfl)
set_option maxRecDepth 100000 in
theorem k_yX7_findTeacher : Cond.code yX7_findTeacher cX7_findTeacher 6 (some .int) ∈ gw := gw_t 1268 (by rfl) (by rfl)
set_option maxRecDepth 100000 in
theorem k_yX7_root : Cond.code yX7_root cX7_root 7 (some .int) ∈ gw := gw_t 1275 (by rfl) (by rfl)
set_option maxRecDepth 100000 in
theorem k_yX7_untaught : Cond.code yX7_untaught cX7_untaught 4 (some .int) ∈ gw := gw_t 1282 (by rfl) (by rfl)
set_option maxRecDepth 100000 in
theorem k_yX6_sendTeachersAway : Cond.code yX6_sendTeachersAway cX6_sendTeachersAway 3 none ∈ gw := gw_t 1286 (by rfl) (by rfl)
set_option maxRecDepth 100000 in
theorem k_yX7_odds : Cond.code yX7_odds cX7_odds 8 (some .int) ∈ gw := gw_t 1293 (by rfl) (by rfl)
set_option maxRecDepth 100000 in
theorem k_yX7_right : Cond.code yX7_right cX7_right 7 (some .int) ∈ gw := gw_t 1301 (by rfl) (by rfl)
set_option maxRecDepth 100000 in
theorem k_yX8_thrown : Cond.code yX8_thrown cX8_thrown 1 (some .int) ∈ gw := gw_t 1306 (by rfl) (by rfl)
set_option maxRecDepth 100000 in
theorem k_yX8_init : Cond.code yX8_init cX8_init 2 none ∈ gw := gw_t 1311 (by rfl) (by rfl)
set_option maxRecDepth 100000 in
theorem k_yX8_seeds : Cond.code yX8_seeds cX8_seeds 3 none ∈ gw := gw_t 1485 (by rfl) (by rfl)
set_option maxRecDepth 100000 in
theorem k_yX8_ends : Cond.code yX8_ends cX8_ends 1 none ∈ gw := gw_t 1489 (by rfl) (by rfl)
set_option maxRecDepth 100000 in
theorem k_yX8_come : Cond.code yX8_come cX8_come 7 (some .int) ∈ gw := gw_t 1493 (by rfl) (by rfl)
set_option maxRecDepth 100000 in
theorem k_yX8_isYard : Cond.code yX8_isYard cX8_isYard 1 (some .boolean) ∈ gw := gw_t 1496 (by rfl) (by rfl)
set_option maxRecDepth 100000 in
theorem k_yX8_within : Cond.code yX8_within cX8_within 3 (some .boolean) ∈ gw := gw_t 1499 (by rfl) (by rfl)
set_option maxRecDepth 100000 in
theorem k_yX8_may : Cond.code yX8_may cX8_may 3 (some .boolean) ∈ gw := gw_t 1503 (by rfl) (by rfl)
set_option maxRecDepth 100000 in
theorem k_yX8_at : Cond.code yX8_at cX8_at 1 (some .int) ∈ gw := gw_t 1506 (by rfl) (by rfl)
set_option maxRecDepth 100000 in
theorem k_yX8_leave : Cond.code yX8_leave cX8_leave 2 (some .int) ∈ gw := gw_t 1510 (by rfl) (by rfl)
set_option maxRecDepth 100000 in
theorem k_yX8_isChild : Cond.code yX8_isChild cX8_isChild 2 (some .boolean) ∈ gw := gw_t 1514 (by rfl) (by rfl)
set_option maxRecDepth 100000 in
theorem k_yX8_visit : Cond.code yX8_visit cX8_visit 4 (some .int) ∈ gw := gw_t 1518 (by rfl) (by rfl)
set_option maxRecDepth 100000 in
theorem k_yX8_of : Cond.code yX8_of cX8_of 6 (some .int) ∈ gw := gw_t 1522 (by rfl) (by rfl)
set_option maxRecDepth 100000 in
theorem k_yX8_holdsNow : Cond.code yX8_holdsNow cX8_holdsNow 4 (some .boolean) ∈ gw := gw_t 1526 (by rfl) (by rfl)
set_option maxRecDepth 100000 in
theorem k_yX8_asks : Cond.code yX8_asks cX8_asks 5 none ∈ gw := gw_t 1530 (by rfl) (by rfl)
set_option maxRecDepth 100000 in
theorem k_yX8_told : Cond.code yX8_told cX8_told 6 (some .int) ∈ gw := gw_t 1534 (by rfl) (by rfl)
set_option maxRecDepth 100000 in
theorem k_yX8_valueOf : Cond.code yX8_valueOf cX8_valueOf 6 (some .int) ∈ gw := gw_t 1538 (by rfl) (by rfl)
set_option maxRecDepth 100000 in
theorem k_yX8_asked : Cond.code yX8_asked cX8_asked 2 (some .int) ∈ gw := gw_t 1542 (by rfl) (by rfl)
set_option maxRecDepth 100000 in
theorem k_yX8_two : Cond.code yX8_two cX8_two 3 (some .int) ∈ gw := gw_t 1545 (by rfl) (by rfl)
set_option maxRecDepth 100000 in
theorem k_yX8_bounded : Cond.code yX8_bounded cX8_bounded 1 (some .int) ∈ gw := gw_t 1548 (by rfl) (by rfl)
set_option maxRecDepth 100000 in
theorem k_yX8_sign : Cond.code yX8_sign cX8_sign 4 (some .int) ∈ gw := gw_t 1552 (by rfl) (by rfl)
set_option maxRecDepth 100000 in
theorem k_yX8_order : Cond.code yX8_order cX8_order 3 (some .int) ∈ gw := gw_t 1556 (by rfl) (by rfl)
set_option maxRecDepth 100000 in
theorem k_yX8_isOrder : Cond.code yX8_isOrder cX8_isOrder 1 (some .boolean) ∈ gw := gw_t 1559 (by rfl) (by rfl)
set_option maxRecDepth 100000 in
theorem k_yX8_holds : Cond.code yX8_holds cX8_holds 3 (some .boolean) ∈ gw := gw_t 1563 (by rfl) (by rfl)
set_option maxRecDepth 100000 in
theorem k_yX8_set : Cond.code yX8_set cX8_set 4 (some .int) ∈ gw := gw_t 1567 (by rfl) (by rfl)
set_option maxRecDepth 100000 in
theorem k_yX8_years : Cond.code yX8_years cX8_years 2 (some .int) ∈ gw := gw_t 1571 (by rfl) (by rfl)
set_option maxRecDepth 100000 in
theorem k_yX8_feed : Cond.code yX8_feed cX8_feed 8 (some .int) ∈ gw := gw_t 1575 (by rfl) (by rfl)
set_option maxRecDepth 100000 in
theorem k_yX8_law : Cond.code yX8_law cX8_law 2 (some .int) ∈ gw := gw_t 1579 (by rfl) (by rfl)
set_option maxRecDepth 100000 in
theorem k_yX8_fine : Cond.code yX8_fine cX8_fine 1 (some .boolean) ∈ gw := gw_t 1583 (by rfl) (by rfl)
set_option maxRecDepth 100000 in
theorem k_yX8_isMore : Cond.code yX8_isMore cX8_isMore 1 (some .boolean) ∈ gw := gw_t 1587 (by rfl) (by rfl)
set_option maxRecDepth 100000 in
theorem k_yX8_here : Cond.code yX8_here cX8_here 1 (some .int) ∈ gw := gw_t 1591 (by rfl) (by rfl)
set_option maxRecDepth 100000 in
theorem k_yX8_readClause : Cond.code yX8_readClause cX8_readClause 4 none ∈ gw := gw_t 1595 (by rfl) (by rfl)
set_option maxRecDepth 100000 in
theorem k_yX8_word : Cond.code yX8_word cX8_word 4 (some .int) ∈ gw := gw_t 1599 (by rfl) (by rfl)
set_option maxRecDepth 100000 in
theorem k_yX8_isSmall : Cond.code yX8_isSmall cX8_isSmall 1 (some .boolean) ∈ gw := gw_t 1602 (by rfl) (by rfl)
set_option maxRecDepth 100000 in
theorem k_yX8_wrong : Cond.code yX8_wrong cX8_wrong 3 none ∈ gw := gw_t 1610 (by rfl) (by rfl)
set_option maxRecDepth 100000 in
theorem k_yX8_pass : Cond.code yX8_pass cX8_pass 1 none ∈ gw := gw_t 1614 (by rfl) (by rfl)
set_option maxRecDepth 100000 in
theorem k_yX8_sum : Cond.code yX8_sum cX8_sum 2 none ∈ gw := gw_t 1618 (by rfl) (by rfl)
set_option maxRecDepth 100000 in
theorem k_yX8_product : Cond.code yX8_product cX8_product 2 none ∈ gw := gw_t 1622 (by rfl) (by rfl)
set_option maxRecDepth 100000 in
theorem k_yX8_unit : Cond.code yX8_unit cX8_unit 3 none ∈ gw := gw_t 1626 (by rfl) (by rfl)
set_option maxRecDepth 100000 in
theorem k_yX8_isDigit : Cond.code yX8_isDigit cX8_isDigit 1 (some .boolean) ∈ gw := gw_t 1629 (by rfl) (by rfl)
set_option maxRecDepth 100000 in
theorem k_yX8_readNumber : Cond.code yX8_readNumber cX8_readNumber 3 (some .int) ∈ gw := gw_t 1633 (by rfl) (by rfl)
set_option maxRecDepth 100000 in
theorem k_yX8_emit : Cond.code yX8_emit cX8_emit 3 none ∈ gw := gw_t 1637 (by rfl) (by rfl)
set_option maxRecDepth 100000 in
theorem k_yX8_opensAt : Cond.code yX8_opensAt cX8_opensAt 3 none ∈ gw := gw_t 1641 (by rfl) (by rfl)
set_option maxRecDepth 100000 in
theorem k_yX8_closesAt : Cond.code yX8_closesAt cX8_closesAt 2 none ∈ gw := gw_t 1645 (by rfl) (by rfl)
set_option maxRecDepth 100000 in
theorem k_yX8_need : Cond.code yX8_need cX8_need 2 none ∈ gw := gw_t 1649 (by rfl) (by rfl)
set_option maxRecDepth 100000 in
theorem k_yX8_name : Cond.code yX8_name cX8_name 1 (some .int) ∈ gw := gw_t 1654 (by rfl) (by rfl)
set_option maxRecDepth 100000 in
theorem k_yX8_anyOf : Cond.code yX8_anyOf cX8_anyOf 1 none ∈ gw := gw_t 1663 (by rfl) (by rfl)
set_option maxRecDepth 100000 in
theorem k_yX8_allOf : Cond.code yX8_allOf cX8_allOf 1 none ∈ gw := gw_t 1667 (by rfl) (by rfl)
set_option maxRecDepth 100000 in
theorem k_yX8_term : Cond.code yX8_term cX8_term 2 none ∈ gw := gw_t 1671 (by rfl) (by rfl)
set_option maxRecDepth 100000 in
theorem k_yX8_fault : Cond.code yX8_fault cX8_fault 1 (some .int) ∈ gw := gw_t 1675 (by rfl) (by rfl)
set_option maxRecDepth 100000 in
theorem k_yX8_force : Cond.code yX8_force cX8_force 3 (some .int) ∈ gw := gw_t 1679 (by rfl) (by rfl)
set_option maxRecDepth 100000 in
theorem k_yX8_isLawOrNone : Cond.code yX8_isLawOrNone cX8_isLawOrNone 2 (some .boolean) ∈ gw := gw_t 1683 (by rfl) (by rfl)
set_option maxRecDepth 100000 in
theorem k_yX8_talk : Cond.code yX8_talk cX8_talk 6 (some .int) ∈ gw := gw_t 1687 (by rfl) (by rfl)
set_option maxRecDepth 100000 in
theorem k_yX8_tells : Cond.code yX8_tells cX8_tells 7 none ∈ gw := gw_t 1691 (by rfl) (by rfl)
set_option maxRecDepth 100000 in
theorem k_yX8_talks : Cond.code yX8_talks cX8_talks 8 none ∈ gw := gw_t 1695 (by rfl) (by rfl)
set_option maxRecDepth 100000 in
theorem k_yX8_saysIt : Cond.code yX8_saysIt cX8_saysIt 8 none ∈ gw := gw_t 1699 (by rfl) (by rfl)
set_option maxRecDepth 100000 in
theorem k_yX8_orderOf : Cond.code yX8_orderOf cX8_orderOf 5 (some .int) ∈ gw := gw_t 1703 (by rfl) (by rfl)
set_option maxRecDepth 100000 in
theorem k_yX8_draw : Cond.code yX8_draw cX8_draw 3 (some .int) ∈ gw := gw_t 1707 (by rfl) (by rfl)
set_option maxRecDepth 100000 in
theorem k_yX8_concept : Cond.code yX8_concept cX8_concept 2 (some .int) ∈ gw := gw_t 1713 (by rfl) (by rfl)
set_option maxRecDepth 100000 in
theorem k_yX8_signOf : Cond.code yX8_signOf cX8_signOf 6 (some .int) ∈ gw := gw_t 1717 (by rfl) (by rfl)
set_option maxRecDepth 100000 in
theorem k_yX8_weightSeen : Cond.code yX8_weightSeen cX8_weightSeen 7 (some .int) ∈ gw := gw_t 1721 (by rfl) (by rfl)
set_option maxRecDepth 100000 in
theorem k_yX8_isWorn : Cond.code yX8_isWorn cX8_isWorn 3 (some .boolean) ∈ gw := gw_t 1725 (by rfl) (by rfl)
set_option maxRecDepth 100000 in
theorem k_yX8_learns : Cond.code yX8_learns cX8_learns 10 none ∈ gw := gw_t 1729 (by rfl) (by rfl)
set_option maxRecDepth 100000 in
theorem k_yX8_seenAs : Cond.code yX8_seenAs cX8_seenAs 3 (some .int) ∈ gw := gw_t 1733 (by rfl) (by rfl)
set_option maxRecDepth 100000 in
theorem k_yX8_run : Cond.code yX8_run cX8_run 4 (some .int) ∈ gw := gw_t 1737 (by rfl) (by rfl)
set_option maxRecDepth 100000 in
theorem k_yX8_findHere : Cond.code yX8_findHere cX8_findHere 3 none ∈ gw := gw_t 1741 (by rfl) (by rfl)
set_option maxRecDepth 100000 in
theorem k_yX8_draws : Cond.code yX8_draws cX8_draws 4 none ∈ gw := gw_t 1745 (by rfl) (by rfl)
set_option maxRecDepth 100000 in
theorem k_yX8_note : Cond.code yX8_note cX8_note 3 (some .int) ∈ gw := gw_t 1749 (by rfl) (by rfl)
set_option maxRecDepth 100000 in
theorem k_yX8_share : Cond.code yX8_share cX8_share 9 (some .int) ∈ gw := gw_t 1753 (by rfl) (by rfl)
set_option maxRecDepth 100000 in
theorem k_yX8_isKind : Cond.code yX8_isKind cX8_isKind 1 (some .boolean) ∈ gw := gw_t 1756 (by rfl) (by rfl)
set_option maxRecDepth 100000 in
theorem k_yX8_held : Cond.code yX8_held cX8_held 3 (some .int) ∈ gw := gw_t 1760 (by rfl) (by rfl)
set_option maxRecDepth 100000 in
theorem k_yX8_heldIn : Cond.code yX8_heldIn cX8_heldIn 5 (some .int) ∈ gw := gw_t 1764 (by rfl) (by rfl)
set_option maxRecDepth 100000 in
theorem k_yX8_first : Cond.code yX8_first cX8_first 3 (some .int) ∈ gw := gw_t 1768 (by rfl) (by rfl)
set_option maxRecDepth 100000 in
theorem k_yX8_back : Cond.code yX8_back cX8_back 6 (some .int) ∈ gw := gw_t 1772 (by rfl) (by rfl)
set_option maxRecDepth 100000 in
theorem k_yX8_uses : Cond.code yX8_uses cX8_uses 3 (some .int) ∈ gw := gw_t 1776 (by rfl) (by rfl)
set_option maxRecDepth 100000 in
theorem k_yX8_seen : Cond.code yX8_seen cX8_seen 3 (some .int) ∈ gw := gw_t 1780 (by rfl) (by rfl)
set_option maxRecDepth 100000 in
theorem k_yX8_film : Cond.code yX8_film cX8_film 2 (some .int) ∈ gw := gw_t 1784 (by rfl) (by rfl)
set_option maxRecDepth 100000 in
theorem k_yX8_end : Cond.code yX8_end cX8_end 2 (some .int) ∈ gw := gw_t 1788 (by rfl) (by rfl)
set_option maxRecDepth 100000 in
theorem k_yX8_gap : Cond.code yX8_gap cX8_gap 3 (some .int) ∈ gw := gw_t 1792 (by rfl) (by rfl)
set_option maxRecDepth 100000 in
theorem k_yX8_isFilm : Cond.code yX8_isFilm cX8_isFilm 2 (some .boolean) ∈ gw := gw_t 1796 (by rfl) (by rfl)
set_option maxRecDepth 100000 in
theorem k_yX8_fits : Cond.code yX8_fits cX8_fits 3 (some .int) ∈ gw := gw_t 1800 (by rfl) (by rfl)
set_option maxRecDepth 100000 in
theorem k_yX8_fitting : Cond.code yX8_fitting cX8_fitting 7 (some .int) ∈ gw := gw_t 1804 (by rfl) (by rfl)
set_option maxRecDepth 100000 in
theorem k_yX8_read : Cond.code yX8_read cX8_read 5 (some .int) ∈ gw := gw_t 1808 (by rfl) (by rfl)
set_option maxRecDepth 100000 in
theorem k_yX8_trial : Cond.code yX8_trial cX8_trial 5 (some .int) ∈ gw := gw_t 1812 (by rfl) (by rfl)
set_option maxRecDepth 100000 in
theorem k_yX8_tryWith : Cond.code yX8_tryWith cX8_tryWith 6 (some .int) ∈ gw := gw_t 1816 (by rfl) (by rfl)
set_option maxRecDepth 100000 in
theorem k_yX8_begins : Cond.code yX8_begins cX8_begins 2 none ∈ gw := gw_t 1820 (by rfl) (by rfl)
set_option maxRecDepth 100000 in
theorem k_yX8_tries : Cond.code yX8_tries cX8_tries 4 none ∈ gw := gw_t 1824 (by rfl) (by rfl)
set_option maxRecDepth 100000 in
theorem k_yX8_fewest : Cond.code yX8_fewest cX8_fewest 8 (some .int) ∈ gw := gw_t 1828 (by rfl) (by rfl)
set_option maxRecDepth 100000 in
theorem k_yX8_isRun : Cond.code yX8_isRun cX8_isRun 3 (some .boolean) ∈ gw := gw_t 1831 (by rfl) (by rfl)
set_option maxRecDepth 100000 in
theorem k_yX8_needed : Cond.code yX8_needed cX8_needed 8 (some .int) ∈ gw := gw_t 1835 (by rfl) (by rfl)
set_option maxRecDepth 100000 in
theorem k_yX8_unlike : Cond.code yX8_unlike cX8_unlike 3 (some .int) ∈ gw := gw_t 1839 (by rfl) (by rfl)
set_option maxRecDepth 100000 in
theorem k_yX8_unlikeOf : Cond.code yX8_unlikeOf cX8_unlikeOf 5 (some .int) ∈ gw := gw_t 1843 (by rfl) (by rfl)
set_option maxRecDepth 100000 in
theorem k_yX8_greatest : Cond.code yX8_greatest cX8_greatest 8 (some .int) ∈ gw := gw_t 1847 (by rfl) (by rfl)
set_option maxRecDepth 100000 in
theorem k_yX8_meets : Cond.code yX8_meets cX8_meets 5 (some .int) ∈ gw := gw_t 1851 (by rfl) (by rfl)
set_option maxRecDepth 100000 in
theorem k_yX8_plain : Cond.code yX8_plain cX8_plain 8 (some .int) ∈ gw := gw_t 1855 (by rfl) (by rfl)
set_option maxRecDepth 100000 in
theorem k_yX8_heaviest : Cond.code yX8_heaviest cX8_heaviest 5 (some .int) ∈ gw := gw_t 1859 (by rfl) (by rfl)
set_option maxRecDepth 100000 in
theorem k_yX8_word_ : Cond.code yX8_word_ cX8_word_ 3 (some .int) ∈ gw := gw_t 1863 (by rfl) (by rfl)
set_option maxRecDepth 100000 in
theorem k_yX8_blurred : Cond.code yX8_blurred cX8_blurred 6 (some .int) ∈ gw := gw_t 1867 (by rfl) (by rfl)
set_option maxRecDepth 100000 in
theorem k_yX8_nearest : Cond.code yX8_nearest cX8_nearest 6 (some .int) ∈ gw := gw_t 1871 (by rfl) (by rfl)
set_option maxRecDepth 100000 in
theorem k_yX8_since : Cond.code yX8_since cX8_since 3 (some .int) ∈ gw := gw_t 1875 (by rfl) (by rfl)
set_option maxRecDepth 100000 in
theorem k_yX8_taught : Cond.code yX8_taught cX8_taught 3 (some .int) ∈ gw := gw_t 1879 (by rfl) (by rfl)
set_option maxRecDepth 100000 in
theorem k_yX8_teacherOf : Cond.code yX8_teacherOf cX8_teacherOf 5 (some .int) ∈ gw := gw_t 1883 (by rfl) (by rfl)
set_option maxRecDepth 100000 in
theorem k_yX8_root : Cond.code yX8_root cX8_root 6 (some .int) ∈ gw := gw_t 1887 (by rfl) (by rfl)
set_option maxRecDepth 100000 in
theorem k_yX8_untaught : Cond.code yX8_untaught cX8_untaught 5 (some .int) ∈ gw := gw_t 1891 (by rfl) (by rfl)
set_option maxRecDepth 100000 in
theorem k_yX8_odds : Cond.code yX8_odds cX8_odds 8 (some .int) ∈ gw := gw_t 1895 (by rfl) (by rfl)
set_option maxRecDepth 100000 in
theorem k_yX8_right : Cond.code yX8_right cX8_right 8 (some .int) ∈ gw := gw_t 1899 (by rfl) (by rfl)
set_option maxRecDepth 100000 in
theorem k_yX8_image : Cond.code yX8_image cX8_image 2 (some .int) ∈ gw := gw_t 1903 (by rfl) (by rfl)
set_option maxRecDepth 100000 in
theorem k_yX8_restore : Cond.code yX8_restore cX8_restore 2 (some .int) ∈ gw := gw_t 1907 (by rfl) (by rfl)
set_option maxRecDepth 100000 in
theorem k_yX8_count : Cond.code yX8_count cX8_count 4 (some .int) ∈ gw := gw_t 1911 (by rfl) (by rfl)
set_option maxRecDepth 100000 in
theorem mlL_136 : Cond.methodLink RL 136 yX7_init ∈ gw := gw_t 25 (by rfl) (by rfl)
set_option maxRecDepth 100000 in
theorem mlX7_1 : Cond.methodLink RX7 1 ⟨"java/lang/Object", "<init>", "()V"⟩ ∈ gw := gw_t 28 (by rfl) (by rfl)
set_option maxRecDepth 100000 in
theorem mlX6_3 : Cond.methodLink RX6 3 ⟨"java/lang/Object", "<init>", "()V"⟩ ∈ gw := gw_t 36 (by rfl) (by rfl)
set_option maxRecDepth 100000 in
theorem mlX7_37 : Cond.methodLink RX7 37 yX3_init ∈ gw := gw_t 124 (by rfl) (by rfl)
set_option maxRecDepth 100000 in
theorem mlX3_3 : Cond.methodLink RX3 3 ⟨"java/lang/Object", "<init>", "()V"⟩ ∈ gw := gw_t 127 (by rfl) (by rfl)
set_option maxRecDepth 100000 in
theorem mlX5_3 : Cond.methodLink RX5 3 ⟨"java/lang/Object", "<init>", "()V"⟩ ∈ gw := gw_t 153 (by rfl) (by rfl)
set_option maxRecDepth 100000 in
theorem mlX4_3 : Cond.methodLink RX4 3 ⟨"java/lang/Object", "<init>", "()V"⟩ ∈ gw := gw_t 203 (by rfl) (by rfl)
set_option maxRecDepth 100000 in
theorem mlX2_3 : Cond.methodLink RX2 3 ⟨"java/lang/Object", "<init>", "()V"⟩ ∈ gw := gw_t 222 (by rfl) (by rfl)
set_option maxRecDepth 100000 in
theorem mlX0_3 : Cond.methodLink RX0 3 ⟨"java/lang/Object", "<init>", "()V"⟩ ∈ gw := gw_t 256 (by rfl) (by rfl)
set_option maxRecDepth 100000 in
theorem mlX1_3 : Cond.methodLink RX1 3 ⟨"java/lang/Object", "<init>", "()V"⟩ ∈ gw := gw_t 281 (by rfl) (by rfl)
set_option maxRecDepth 100000 in
theorem mvL_140 : MV RL 140 7 yX7_seeds cX7_seeds 3 none (((parseMethodDescriptor "(II)V").map (fun d => d.parameters.length)).getD 0) := ⟨gw_t 365 (by rfl) (by rfl), gw_t 366 (by rfl) (by rfl), gw_t 367 (by rfl) (by rfl), gw_t 1 (by rfl) (by rfl), k_yX7_seeds, by decide +kernel, by decide +kernel, _, _, rfl⟩
set_option maxRecDepth 100000 in
theorem mvX7_100 : MV RX7 100 7 yX7_stopFilm cX7_stopFilm 1 none (((parseMethodDescriptor "()V").map (fun d => d.parameters.length)).getD 0) := ⟨gw_t 369 (by rfl) (by rfl), gw_t 371 (by rfl) (by rfl), gw_p 0 (by rfl) (by rfl), gw_t 1 (by rfl) (by rfl), k_yX7_stopFilm, by decide +kernel, by decide +kernel, _, _, rfl⟩
set_option maxRecDepth 100000 in
theorem mvL_182 : MV RL 182 7 yX7_feed cX7_feed 6 (some .int) (((parseMethodDescriptor "(IIIII)I").map (fun d => d.parameters.length)).getD 0) := ⟨gw_t 373 (by rfl) (by rfl), gw_t 374 (by rfl) (by rfl), gw_t 375 (by rfl) (by rfl), gw_t 1 (by rfl) (by rfl), k_yX7_feed, by decide +kernel, by decide +kernel, _, _, rfl⟩
set_option maxRecDepth 100000 in
theorem mvX7_192 : MV RX7 192 7 yX7_putBytes cX7_putBytes 3 none (((parseMethodDescriptor "(I)V").map (fun d => d.parameters.length)).getD 0) := ⟨gw_t 377 (by rfl) (by rfl), gw_t 379 (by rfl) (by rfl), gw_p 1 (by rfl) (by rfl), gw_t 1 (by rfl) (by rfl), k_yX7_putBytes, by decide +kernel, by decide +kernel, _, _, rfl⟩
set_option maxRecDepth 100000 in
theorem mvL_189 : MV RL 189 7 yX7_fault cX7_fault 1 (some .int) (((parseMethodDescriptor "()I").map (fun d => d.parameters.length)).getD 0) := ⟨gw_t 381 (by rfl) (by rfl), gw_t 382 (by rfl) (by rfl), gw_t 383 (by rfl) (by rfl), gw_t 1 (by rfl) (by rfl), k_yX7_fault, by decide +kernel, by decide +kernel, _, _, rfl⟩
set_option maxRecDepth 100000 in
theorem mvL_225 : MV RL 225 7 yX7_film cX7_film 1 (some .int) (((parseMethodDescriptor "()I").map (fun d => d.parameters.length)).getD 0) := ⟨gw_t 385 (by rfl) (by rfl), gw_t 386 (by rfl) (by rfl), gw_t 387 (by rfl) (by rfl), gw_t 1 (by rfl) (by rfl), k_yX7_film, by decide +kernel, by decide +kernel, _, _, rfl⟩
set_option maxRecDepth 100000 in
theorem mvX7_275 : MV RX7 275 0 yX0_begin cX0_begin 3 none (((parseMethodDescriptor "(LYardTalk$World;I)V").map (fun d => d.parameters.length)).getD 0) := ⟨gw_t 389 (by rfl) (by rfl), gw_t 390 (by rfl) (by rfl), gw_t 391 (by rfl) (by rfl), gw_t 7 (by rfl) (by rfl), k_yX0_begin, by decide +kernel, by decide +kernel, _, _, rfl⟩
set_option maxRecDepth 100000 in
theorem mvX0_29 : MV RX0 29 6 yX6_become cX6_become 2 none (((parseMethodDescriptor "(LYardTalk$World;)V").map (fun d => d.parameters.length)).getD 0) := ⟨gw_t 393 (by rfl) (by rfl), gw_t 394 (by rfl) (by rfl), gw_t 395 (by rfl) (by rfl), gw_t 2 (by rfl) (by rfl), k_yX6_become, by decide +kernel, by decide +kernel, _, _, rfl⟩
set_option maxRecDepth 100000 in
theorem mlX6_64 : Cond.methodLink RX6 64 ⟨"java/lang/System", "arraycopy", "(Ljava/lang/Object;ILjava/lang/Object;II)V"⟩ ∈ gw := gw_t 397 (by rfl) (by rfl)
set_option maxRecDepth 100000 in
theorem mvL_229 : MV RL 229 7 yX7_end cX7_end 2 (some .int) (((parseMethodDescriptor "()I").map (fun d => d.parameters.length)).getD 0) := ⟨gw_t 400 (by rfl) (by rfl), gw_t 401 (by rfl) (by rfl), gw_t 402 (by rfl) (by rfl), gw_t 1 (by rfl) (by rfl), k_yX7_end, by decide +kernel, by decide +kernel, _, _, rfl⟩
set_option maxRecDepth 100000 in
theorem mvL_239 : MV RL 239 7 yX7_read cX7_read 5 (some .int) (((parseMethodDescriptor "()I").map (fun d => d.parameters.length)).getD 0) := ⟨gw_t 404 (by rfl) (by rfl), gw_t 405 (by rfl) (by rfl), gw_t 406 (by rfl) (by rfl), gw_t 1 (by rfl) (by rfl), k_yX7_read, by decide +kernel, by decide +kernel, _, _, rfl⟩
set_option maxRecDepth 100000 in
theorem mvX7_287 : MV RX7 287 7 yX7_countAlike cX7_countAlike 5 (some .int) (((parseMethodDescriptor "(LYardTalk$Film;I)I").map (fun d => d.parameters.length)).getD 0) := ⟨gw_t 408 (by rfl) (by rfl), gw_t 410 (by rfl) (by rfl), gw_p 2 (by rfl) (by rfl), gw_t 1 (by rfl) (by rfl), k_yX7_countAlike, by decide +kernel, by decide +kernel, _, _, rfl⟩
set_option maxRecDepth 100000 in
theorem mvX7_295 : MV RX7 295 6 yX6_become cX6_become 2 none (((parseMethodDescriptor "(LYardTalk$World;)V").map (fun d => d.parameters.length)).getD 0) := ⟨gw_t 412 (by rfl) (by rfl), gw_t 394 (by rfl) (by rfl), gw_t 395 (by rfl) (by rfl), gw_t 2 (by rfl) (by rfl), k_yX6_become, by decide +kernel, by decide +kernel, _, _, rfl⟩
set_option maxRecDepth 100000 in
theorem mvX7_299 : MV RX7 299 7 yX7_lawOf cX7_lawOf 2 (some (.object "YardTalk$Law")) (((parseMethodDescriptor "(I)LYardTalk$Law;").map (fun d => d.parameters.length)).getD 0) := ⟨gw_t 413 (by rfl) (by rfl), gw_t 415 (by rfl) (by rfl), gw_p 3 (by rfl) (by rfl), gw_t 1 (by rfl) (by rfl), k_yX7_lawOf, by decide +kernel, by decide +kernel, _, _, rfl⟩
set_option maxRecDepth 100000 in
theorem mvX7_303 : MV RX7 303 4 yX4_use cX4_use 3 none (((parseMethodDescriptor "(LYardTalk$Law;I)V").map (fun d => d.parameters.length)).getD 0) := ⟨gw_t 417 (by rfl) (by rfl), gw_t 418 (by rfl) (by rfl), gw_t 419 (by rfl) (by rfl), gw_t 5 (by rfl) (by rfl), k_yX4_use, by decide +kernel, by decide +kernel, _, _, rfl⟩
set_option maxRecDepth 100000 in
theorem mvX7_248 : MV RX7 248 3 yX3_at cX3_at 3 (some .int) (((parseMethodDescriptor "(II)I").map (fun d => d.parameters.length)).getD 0) := ⟨gw_t 421 (by rfl) (by rfl), gw_t 422 (by rfl) (by rfl), gw_t 423 (by rfl) (by rfl), gw_t 3 (by rfl) (by rfl), k_yX3_at, by decide +kernel, by decide +kernel, _, _, rfl⟩
set_option maxRecDepth 100000 in
theorem mvX7_221 : MV RX7 221 5 yX5_begin cX5_begin 6 none (((parseMethodDescriptor "(IIIII)V").map (fun d => d.parameters.length)).getD 0) := ⟨gw_t 425 (by rfl) (by rfl), gw_t 426 (by rfl) (by rfl), gw_t 427 (by rfl) (by rfl), gw_t 4 (by rfl) (by rfl), k_yX5_begin, by decide +kernel, by decide +kernel, _, _, rfl⟩
set_option maxRecDepth 100000 in
theorem mvX7_399 : MV RX7 399 5 yX5_makeIn cX5_makeIn 3 none (((parseMethodDescriptor "(LYardTalk$World;LYardTalk$Ruling;)V").map (fun d => d.parameters.length)).getD 0) := ⟨gw_t 429 (by rfl) (by rfl), gw_t 430 (by rfl) (by rfl), gw_t 431 (by rfl) (by rfl), gw_t 4 (by rfl) (by rfl), k_yX5_makeIn, by decide +kernel, by decide +kernel, _, _, rfl⟩
set_option maxRecDepth 100000 in
theorem mvX5_44 : MV RX5 44 5 yX5_sayIn cX5_sayIn 3 none (((parseMethodDescriptor "(LYardTalk$World;)V").map (fun d => d.parameters.length)).getD 0) := ⟨gw_t 433 (by rfl) (by rfl), gw_t 434 (by rfl) (by rfl), gw_t 435 (by rfl) (by rfl), gw_t 4 (by rfl) (by rfl), k_yX5_sayIn, by decide +kernel, by decide +kernel, _, _, rfl⟩
set_option maxRecDepth 100000 in
theorem mvX5_73 : MV RX5 73 6 yX6_chooseOrder cX6_chooseOrder 3 (some .int) (((parseMethodDescriptor "(I)I").map (fun d => d.parameters.length)).getD 0) := ⟨gw_t 437 (by rfl) (by rfl), gw_t 438 (by rfl) (by rfl), gw_t 439 (by rfl) (by rfl), gw_t 2 (by rfl) (by rfl), k_yX6_chooseOrder, by decide +kernel, by decide +kernel, _, _, rfl⟩
set_option maxRecDepth 100000 in
theorem mvX6_100 : MV RX6 100 6 yX6_heaviestOrder cX6_heaviestOrder 6 (some .int) (((parseMethodDescriptor "(I)I").map (fun d => d.parameters.length)).getD 0) := ⟨gw_t 441 (by rfl) (by rfl), gw_t 442 (by rfl) (by rfl), gw_t 443 (by rfl) (by rfl), gw_t 2 (by rfl) (by rfl), k_yX6_heaviestOrder, by decide +kernel, by decide +kernel, _, _, rfl⟩
set_option maxRecDepth 100000 in
theorem mvX6_97 : MV RX6 97 6 yX6_drawChance cX6_drawChance 2 (some .int) (((parseMethodDescriptor "(I)I").map (fun d => d.parameters.length)).getD 0) := ⟨gw_t 445 (by rfl) (by rfl), gw_t 446 (by rfl) (by rfl), gw_t 447 (by rfl) (by rfl), gw_t 2 (by rfl) (by rfl), k_yX6_drawChance, by decide +kernel, by decide +kernel, _, _, rfl⟩
set_option maxRecDepth 100000 in
theorem msX6_71 : MS RX6 71 yX6_advance cX6_advance 1 (some .int) (((parseMethodDescriptor "(I)I").map (fun d => d.parameters.length)).getD 0) := ⟨gw_t 449 (by rfl) (by rfl), gw_t 450 (by rfl) (by rfl), gw_t 2 (by rfl) (by rfl), k_yX6_advance, by decide +kernel, by decide +kernel⟩
set_option maxRecDepth 100000 in
theorem msX6_75 : MS RX6 75 yX6_pick cX6_pick 2 (some .int) (((parseMethodDescriptor "(II)I").map (fun d => d.parameters.length)).getD 0) := ⟨gw_t 453 (by rfl) (by rfl), gw_t 454 (by rfl) (by rfl), gw_t 2 (by rfl) (by rfl), k_yX6_pick, by decide +kernel, by decide +kernel⟩
set_option maxRecDepth 100000 in
theorem mvX5_76 : MV RX5 76 5 yX5_conceptMeant cX5_conceptMeant 3 (some .int) (((parseMethodDescriptor "(I)I").map (fun d => d.parameters.length)).getD 0) := ⟨gw_t 456 (by rfl) (by rfl), gw_t 458 (by rfl) (by rfl), gw_p 4 (by rfl) (by rfl), gw_t 4 (by rfl) (by rfl), k_yX5_conceptMeant, by decide +kernel, by decide +kernel, _, _, rfl⟩
set_option maxRecDepth 100000 in
theorem mvX5_79 : MV RX5 79 6 yX6_chooseSign cX6_chooseSign 4 (some .int) (((parseMethodDescriptor "(II)I").map (fun d => d.parameters.length)).getD 0) := ⟨gw_t 468 (by rfl) (by rfl), gw_t 469 (by rfl) (by rfl), gw_t 470 (by rfl) (by rfl), gw_t 2 (by rfl) (by rfl), k_yX6_chooseSign, by decide +kernel, by decide +kernel, _, _, rfl⟩
set_option maxRecDepth 100000 in
theorem mvX6_94 : MV RX6 94 6 yX6_heaviestSign cX6_heaviestSign 7 (some .int) (((parseMethodDescriptor "(II)I").map (fun d => d.parameters.length)).getD 0) := ⟨gw_t 472 (by rfl) (by rfl), gw_t 473 (by rfl) (by rfl), gw_t 474 (by rfl) (by rfl), gw_t 2 (by rfl) (by rfl), k_yX6_heaviestSign, by decide +kernel, by decide +kernel, _, _, rfl⟩
set_option maxRecDepth 100000 in
theorem mvX5_48 : MV RX5 48 5 yX5_takeIn cX5_takeIn 4 none (((parseMethodDescriptor "(LYardTalk$World;)V").map (fun d => d.parameters.length)).getD 0) := ⟨gw_t 479 (by rfl) (by rfl), gw_t 480 (by rfl) (by rfl), gw_t 481 (by rfl) (by rfl), gw_t 4 (by rfl) (by rfl), k_yX5_takeIn, by decide +kernel, by decide +kernel, _, _, rfl⟩
set_option maxRecDepth 100000 in
theorem mvX5_95 : MV RX5 95 5 yX5_guessPart cX5_guessPart 8 (some .int) (((parseMethodDescriptor "(LYardTalk$World;II)I").map (fun d => d.parameters.length)).getD 0) := ⟨gw_t 483 (by rfl) (by rfl), gw_t 485 (by rfl) (by rfl), gw_p 5 (by rfl) (by rfl), gw_t 4 (by rfl) (by rfl), k_yX5_guessPart, by decide +kernel, by decide +kernel, _, _, rfl⟩
set_option maxRecDepth 100000 in
theorem mvX5_99 : MV RX5 99 6 yX6_weightSeen cX6_weightSeen 5 (some .int) (((parseMethodDescriptor "(III)I").map (fun d => d.parameters.length)).getD 0) := ⟨gw_t 487 (by rfl) (by rfl), gw_t 488 (by rfl) (by rfl), gw_t 489 (by rfl) (by rfl), gw_t 2 (by rfl) (by rfl), k_yX6_weightSeen, by decide +kernel, by decide +kernel, _, _, rfl⟩
set_option maxRecDepth 100000 in
theorem mvX6_103 : MV RX6 103 6 yX6_areBothWorn cX6_areBothWorn 4 (some .boolean) (((parseMethodDescriptor "(II)Z").map (fun d => d.parameters.length)).getD 0) := ⟨gw_t 491 (by rfl) (by rfl), gw_t 493 (by rfl) (by rfl), gw_p 6 (by rfl) (by rfl), gw_t 2 (by rfl) (by rfl), k_yX6_areBothWorn, by decide +kernel, by decide +kernel, _, _, rfl⟩
set_option maxRecDepth 100000 in
theorem mvX5_51 : MV RX5 51 6 yX6_drawChance cX6_drawChance 2 (some .int) (((parseMethodDescriptor "(I)I").map (fun d => d.parameters.length)).getD 0) := ⟨gw_t 495 (by rfl) (by rfl), gw_t 446 (by rfl) (by rfl), gw_t 447 (by rfl) (by rfl), gw_t 2 (by rfl) (by rfl), k_yX6_drawChance, by decide +kernel, by decide +kernel, _, _, rfl⟩
set_option maxRecDepth 100000 in
theorem mvX5_60 : MV RX5 60 5 yX5_learnIn cX5_learnIn 7 none (((parseMethodDescriptor "(LYardTalk$World;LYardTalk$Ruling;)V").map (fun d => d.parameters.length)).getD 0) := ⟨gw_t 496 (by rfl) (by rfl), gw_t 498 (by rfl) (by rfl), gw_p 7 (by rfl) (by rfl), gw_t 4 (by rfl) (by rfl), k_yX5_learnIn, by decide +kernel, by decide +kernel, _, _, rfl⟩
set_option maxRecDepth 100000 in
theorem mvX5_106 : MV RX5 106 4 yX4_ofChild cX4_ofChild 3 none (((parseMethodDescriptor "(LYardTalk$World;I)V").map (fun d => d.parameters.length)).getD 0) := ⟨gw_t 500 (by rfl) (by rfl), gw_t 501 (by rfl) (by rfl), gw_t 502 (by rfl) (by rfl), gw_t 5 (by rfl) (by rfl), k_yX4_ofChild, by decide +kernel, by decide +kernel, _, _, rfl⟩
set_option maxRecDepth 100000 in
theorem mvX4_28 : MV RX4 28 6 yX6_ageNow cX6_ageNow 2 (some .int) (((parseMethodDescriptor "(I)I").map (fun d => d.parameters.length)).getD 0) := ⟨gw_t 504 (by rfl) (by rfl), gw_t 505 (by rfl) (by rfl), gw_t 506 (by rfl) (by rfl), gw_t 2 (by rfl) (by rfl), k_yX6_ageNow, by decide +kernel, by decide +kernel, _, _, rfl⟩
set_option maxRecDepth 100000 in
theorem mvX6_87 : MV RX6 87 6 yX6_yearsHere cX6_yearsHere 2 (some .int) (((parseMethodDescriptor "(I)I").map (fun d => d.parameters.length)).getD 0) := ⟨gw_t 508 (by rfl) (by rfl), gw_t 509 (by rfl) (by rfl), gw_t 510 (by rfl) (by rfl), gw_t 2 (by rfl) (by rfl), k_yX6_yearsHere, by decide +kernel, by decide +kernel, _, _, rfl⟩
set_option maxRecDepth 100000 in
theorem mvX4_34 : MV RX4 34 6 yX6_yearsHere cX6_yearsHere 2 (some .int) (((parseMethodDescriptor "(I)I").map (fun d => d.parameters.length)).getD 0) := ⟨gw_t 512 (by rfl) (by rfl), gw_t 509 (by rfl) (by rfl), gw_t 510 (by rfl) (by rfl), gw_t 2 (by rfl) (by rfl), k_yX6_yearsHere, by decide +kernel, by decide +kernel, _, _, rfl⟩
set_option maxRecDepth 100000 in
theorem mvX5_112 : MV RX5 112 4 yX4_ofTalk cX4_ofTalk 3 none (((parseMethodDescriptor "(ZZ)V").map (fun d => d.parameters.length)).getD 0) := ⟨gw_t 513 (by rfl) (by rfl), gw_t 514 (by rfl) (by rfl), gw_t 515 (by rfl) (by rfl), gw_t 5 (by rfl) (by rfl), k_yX4_ofTalk, by decide +kernel, by decide +kernel, _, _, rfl⟩
set_option maxRecDepth 100000 in
theorem mvX5_116 : MV RX5 116 6 yX6_seenAs cX6_seenAs 3 (some .int) (((parseMethodDescriptor "(II)I").map (fun d => d.parameters.length)).getD 0) := ⟨gw_t 517 (by rfl) (by rfl), gw_t 518 (by rfl) (by rfl), gw_t 519 (by rfl) (by rfl), gw_t 2 (by rfl) (by rfl), k_yX6_seenAs, by decide +kernel, by decide +kernel, _, _, rfl⟩
set_option maxRecDepth 100000 in
theorem mvX5_119 : MV RX5 119 5 yX5_learnSign cX5_learnSign 7 none (((parseMethodDescriptor "(LYardTalk$World;LYardTalk$Ruling;II)V").map (fun d => d.parameters.length)).getD 0) := ⟨gw_t 521 (by rfl) (by rfl), gw_t 523 (by rfl) (by rfl), gw_p 8 (by rfl) (by rfl), gw_t 4 (by rfl) (by rfl), k_yX5_learnSign, by decide +kernel, by decide +kernel, _, _, rfl⟩
set_option maxRecDepth 100000 in
theorem mvX5_130 : MV RX5 130 4 yX4_valueOf cX4_valueOf 6 (some .int) (((parseMethodDescriptor "(II)I").map (fun d => d.parameters.length)).getD 0) := ⟨gw_t 526 (by rfl) (by rfl), gw_t 527 (by rfl) (by rfl), gw_t 528 (by rfl) (by rfl), gw_t 5 (by rfl) (by rfl), k_yX4_valueOf, by decide +kernel, by decide +kernel, _, _, rfl⟩
set_option maxRecDepth 100000 in
theorem mvX4_67 : MV RX4 67 1 yX1_work cX1_work 8 (some .int) (((parseMethodDescriptor "(II[I[I)I").map (fun d => d.parameters.length)).getD 0) := ⟨gw_t 530 (by rfl) (by rfl), gw_t 531 (by rfl) (by rfl), gw_t 532 (by rfl) (by rfl), gw_t 8 (by rfl) (by rfl), k_yX1_work, by decide +kernel, by decide +kernel, _, _, rfl⟩
set_option maxRecDepth 100000 in
theorem msX1_34 : MS RX1 34 yX1_act cX1_act 3 (some .int) (((parseMethodDescriptor "(III)I").map (fun d => d.parameters.length)).getD 0) := ⟨gw_t 534 (by rfl) (by rfl), gw_t 535 (by rfl) (by rfl), gw_t 8 (by rfl) (by rfl), k_yX1_act, by decide +kernel, by decide +kernel⟩
set_option maxRecDepth 100000 in
theorem msX7_390 : MS RX7 390 yJ9_min_7cf53 cJ9_min_7cf53 2 (some .int) (((parseMethodDescriptor "(II)I").map (fun d => d.parameters.length)).getD 0) := ⟨gw_t 540 (by rfl) (by rfl), gw_t 541 (by rfl) (by rfl), gw_t 15 (by rfl) (by rfl), k_yJ9_min_7cf53, by decide +kernel, by decide +kernel⟩
set_option maxRecDepth 100000 in
theorem msX7_361 : MS RX7 361 yJ9_max_7cf53 cJ9_max_7cf53 2 (some .int) (((parseMethodDescriptor "(II)I").map (fun d => d.parameters.length)).getD 0) := ⟨gw_t 543 (by rfl) (by rfl), gw_t 544 (by rfl) (by rfl), gw_t 15 (by rfl) (by rfl), k_yJ9_max_7cf53, by decide +kernel, by decide +kernel⟩
set_option maxRecDepth 100000 in
theorem mvX5_133 : MV RX5 133 6 yX6_addToSign cX6_addToSign 6 none (((parseMethodDescriptor "(IIII)V").map (fun d => d.parameters.length)).getD 0) := ⟨gw_t 548 (by rfl) (by rfl), gw_t 549 (by rfl) (by rfl), gw_t 550 (by rfl) (by rfl), gw_t 2 (by rfl) (by rfl), k_yX6_addToSign, by decide +kernel, by decide +kernel, _, _, rfl⟩
set_option maxRecDepth 100000 in
theorem mvX5_123 : MV RX5 123 5 yX5_learnOrder cX5_learnOrder 7 none (((parseMethodDescriptor "(LYardTalk$World;LYardTalk$Ruling;)V").map (fun d => d.parameters.length)).getD 0) := ⟨gw_t 553 (by rfl) (by rfl), gw_t 555 (by rfl) (by rfl), gw_p 9 (by rfl) (by rfl), gw_t 4 (by rfl) (by rfl), k_yX5_learnOrder, by decide +kernel, by decide +kernel, _, _, rfl⟩
set_option maxRecDepth 100000 in
theorem mvX5_140 : MV RX5 140 6 yX6_addToOrder cX6_addToOrder 5 none (((parseMethodDescriptor "(III)V").map (fun d => d.parameters.length)).getD 0) := ⟨gw_t 557 (by rfl) (by rfl), gw_t 558 (by rfl) (by rfl), gw_t 559 (by rfl) (by rfl), gw_t 2 (by rfl) (by rfl), k_yX6_addToOrder, by decide +kernel, by decide +kernel, _, _, rfl⟩
set_option maxRecDepth 100000 in
theorem mvX5_64 : MV RX5 64 5 yX5_strengthenIn cX5_strengthenIn 3 none (((parseMethodDescriptor "(LYardTalk$World;)V").map (fun d => d.parameters.length)).getD 0) := ⟨gw_t 561 (by rfl) (by rfl), gw_t 563 (by rfl) (by rfl), gw_p 10 (by rfl) (by rfl), gw_t 4 (by rfl) (by rfl), k_yX5_strengthenIn, by decide +kernel, by decide +kernel, _, _, rfl⟩
set_option maxRecDepth 100000 in
theorem mvX7_423 : MV RX7 423 3 yX3_hasSigns cX3_hasSigns 4 (some .boolean) (((parseMethodDescriptor "(ILYardTalk$Speech;)Z").map (fun d => d.parameters.length)).getD 0) := ⟨gw_t 565 (by rfl) (by rfl), gw_t 566 (by rfl) (by rfl), gw_t 567 (by rfl) (by rfl), gw_t 3 (by rfl) (by rfl), k_yX3_hasSigns, by decide +kernel, by decide +kernel, _, _, rfl⟩
set_option maxRecDepth 100000 in
theorem mvX3_69 : MV RX3 69 3 yX3_at cX3_at 3 (some .int) (((parseMethodDescriptor "(II)I").map (fun d => d.parameters.length)).getD 0) := ⟨gw_t 569 (by rfl) (by rfl), gw_t 422 (by rfl) (by rfl), gw_t 423 (by rfl) (by rfl), gw_t 3 (by rfl) (by rfl), k_yX3_at, by decide +kernel, by decide +kernel, _, _, rfl⟩
set_option maxRecDepth 100000 in
theorem mvL_259 : MV RL 259 7 yX7_image cX7_image 1 (some .int) (((parseMethodDescriptor "()I").map (fun d => d.parameters.length)).getD 0) := ⟨gw_t 570 (by rfl) (by rfl), gw_t 571 (by rfl) (by rfl), gw_t 572 (by rfl) (by rfl), gw_t 1 (by rfl) (by rfl), k_yX7_image, by decide +kernel, by decide +kernel, _, _, rfl⟩
set_option maxRecDepth 100000 in
theorem mvL_263 : MV RL 263 7 yX7_restore cX7_restore 1 (some .int) (((parseMethodDescriptor "()I").map (fun d => d.parameters.length)).getD 0) := ⟨gw_t 574 (by rfl) (by rfl), gw_t 575 (by rfl) (by rfl), gw_t 576 (by rfl) (by rfl), gw_t 1 (by rfl) (by rfl), k_yX7_restore, by decide +kernel, by decide +kernel, _, _, rfl⟩
set_option maxRecDepth 100000 in
theorem mvL_297 : MV RL 297 7 yX7_count cX7_count 2 (some .int) (((parseMethodDescriptor "(I)I").map (fun d => d.parameters.length)).getD 0) := ⟨gw_t 578 (by rfl) (by rfl), gw_t 579 (by rfl) (by rfl), gw_t 580 (by rfl) (by rfl), gw_t 1 (by rfl) (by rfl), k_yX7_count, by decide +kernel, by decide +kernel, _, _, rfl⟩
set_option maxRecDepth 100000 in
theorem mvX7_319 : MV RX7 319 6 yX6_countThere cX6_countThere 4 (some .int) (((parseMethodDescriptor "(I)I").map (fun d => d.parameters.length)).getD 0) := ⟨gw_t 582 (by rfl) (by rfl), gw_t 583 (by rfl) (by rfl), gw_t 584 (by rfl) (by rfl), gw_t 2 (by rfl) (by rfl), k_yX6_countThere, by decide +kernel, by decide +kernel, _, _, rfl⟩
set_option maxRecDepth 100000 in
theorem mvX6_90 : MV RX6 90 6 yX6_isThere cX6_isThere 3 (some .boolean) (((parseMethodDescriptor "(II)Z").map (fun d => d.parameters.length)).getD 0) := ⟨gw_t 586 (by rfl) (by rfl), gw_t 587 (by rfl) (by rfl), gw_t 588 (by rfl) (by rfl), gw_t 2 (by rfl) (by rfl), k_yX6_isThere, by decide +kernel, by decide +kernel, _, _, rfl⟩
set_option maxRecDepth 100000 in
theorem mlL_145 : Cond.methodLink RL 145 ⟨"YardTalkLaw", "come", "(LYardTalk;IIZ[J)I"⟩ ∈ gw := gw_t 590 (by rfl) (by rfl)
set_option maxRecDepth 100000 in
theorem mvL_7 : MV RL 7 7 yX7_come cX7_come 4 (some .int) (((parseMethodDescriptor "(IIZ)I").map (fun d => d.parameters.length)).getD 0) := ⟨gw_t 594 (by rfl) (by rfl), gw_t 595 (by rfl) (by rfl), gw_t 596 (by rfl) (by rfl), gw_t 1 (by rfl) (by rfl), k_yX7_come, by decide +kernel, by decide +kernel, _, _, rfl⟩
set_option maxRecDepth 100000 in
theorem msX7_103 : MS RX7 103 yX7_checkYard cX7_checkYard 1 none (((parseMethodDescriptor "(I)V").map (fun d => d.parameters.length)).getD 0) := ⟨gw_t 598 (by rfl) (by rfl), gw_t 599 (by rfl) (by rfl), gw_t 1 (by rfl) (by rfl), k_yX7_checkYard, by decide +kernel, by decide +kernel⟩
set_option maxRecDepth 100000 in
theorem mlX7_111 : Cond.methodLink RX7 111 ⟨"java/lang/IllegalArgumentException", "<init>", "(Ljava/lang/String;)V"⟩ ∈ gw := gw_t 644 (by rfl) (by rfl)
set_option maxRecDepth 100000 in
theorem mvX7_117 : MV RX7 117 6 yX6_arrive cX6_arrive 5 (some .int) (((parseMethodDescriptor "(IIZ)I").map (fun d => d.parameters.length)).getD 0) := ⟨gw_t 671 (by rfl) (by rfl), gw_t 672 (by rfl) (by rfl), gw_t 673 (by rfl) (by rfl), gw_t 2 (by rfl) (by rfl), k_yX6_arrive, by decide +kernel, by decide +kernel, _, _, rfl⟩
set_option maxRecDepth 100000 in
theorem mvX6_79 : MV RX6 79 6 yX6_giveFirstWeights cX6_giveFirstWeights 3 none (((parseMethodDescriptor "(I)V").map (fun d => d.parameters.length)).getD 0) := ⟨gw_t 675 (by rfl) (by rfl), gw_t 677 (by rfl) (by rfl), gw_p 12 (by rfl) (by rfl), gw_t 2 (by rfl) (by rfl), k_yX6_giveFirstWeights, by decide +kernel, by decide +kernel, _, _, rfl⟩
set_option maxRecDepth 100000 in
theorem mlL_155 : Cond.methodLink RL 155 ⟨"YardTalkLaw", "leave", "(LYardTalk;I[J)I"⟩ ∈ gw := gw_t 679 (by rfl) (by rfl)
set_option maxRecDepth 100000 in
theorem mvL_15 : MV RL 15 7 yX7_leave cX7_leave 2 (some .int) (((parseMethodDescriptor "(I)I").map (fun d => d.parameters.length)).getD 0) := ⟨gw_t 683 (by rfl) (by rfl), gw_t 684 (by rfl) (by rfl), gw_t 685 (by rfl) (by rfl), gw_t 1 (by rfl) (by rfl), k_yX7_leave, by decide +kernel, by decide +kernel, _, _, rfl⟩
set_option maxRecDepth 100000 in
theorem mvX7_121 : MV RX7 121 7 yX7_checkChild cX7_checkChild 2 none (((parseMethodDescriptor "(I)V").map (fun d => d.parameters.length)).getD 0) := ⟨gw_t 687 (by rfl) (by rfl), gw_t 689 (by rfl) (by rfl), gw_p 13 (by rfl) (by rfl), gw_t 1 (by rfl) (by rfl), k_yX7_checkChild, by decide +kernel, by decide +kernel, _, _, rfl⟩
set_option maxRecDepth 100000 in
theorem mlX7_370 : Cond.methodLink RX7 370 ⟨"java/util/NoSuchElementException", "<init>", "(Ljava/lang/String;)V"⟩ ∈ gw := gw_t 701 (by rfl) (by rfl)
set_option maxRecDepth 100000 in
theorem mlL_159 : Cond.methodLink RL 159 ⟨"YardTalkLaw", "visit", "(LYardTalk;II[J)I"⟩ ∈ gw := gw_t 707 (by rfl) (by rfl)
set_option maxRecDepth 100000 in
theorem mvL_21 : MV RL 21 7 yX7_visit cX7_visit 4 (some .int) (((parseMethodDescriptor "(II)I").map (fun d => d.parameters.length)).getD 0) := ⟨gw_t 710 (by rfl) (by rfl), gw_t 711 (by rfl) (by rfl), gw_t 712 (by rfl) (by rfl), gw_t 1 (by rfl) (by rfl), k_yX7_visit, by decide +kernel, by decide +kernel, _, _, rfl⟩
set_option maxRecDepth 100000 in
theorem mlL_163 : Cond.methodLink RL 163 ⟨"YardTalkLaw", "of", "(LYardTalk;II[J)I"⟩ ∈ gw := gw_t 714 (by rfl) (by rfl)
set_option maxRecDepth 100000 in
theorem mvL_25 : MV RL 25 7 yX7_of cX7_of 3 (some .int) (((parseMethodDescriptor "(II)I").map (fun d => d.parameters.length)).getD 0) := ⟨gw_t 717 (by rfl) (by rfl), gw_t 718 (by rfl) (by rfl), gw_t 719 (by rfl) (by rfl), gw_t 1 (by rfl) (by rfl), k_yX7_of, by decide +kernel, by decide +kernel, _, _, rfl⟩
set_option maxRecDepth 100000 in
theorem mvX7_130 : MV RX7 130 6 yX6_ageNow cX6_ageNow 2 (some .int) (((parseMethodDescriptor "(I)I").map (fun d => d.parameters.length)).getD 0) := ⟨gw_t 721 (by rfl) (by rfl), gw_t 505 (by rfl) (by rfl), gw_t 506 (by rfl) (by rfl), gw_t 2 (by rfl) (by rfl), k_yX6_ageNow, by decide +kernel, by decide +kernel, _, _, rfl⟩
set_option maxRecDepth 100000 in
theorem mvX7_143 : MV RX7 143 7 yX7_countOrdersHeld cX7_countOrdersHeld 4 (some .int) (((parseMethodDescriptor "(I)I").map (fun d => d.parameters.length)).getD 0) := ⟨gw_t 722 (by rfl) (by rfl), gw_t 724 (by rfl) (by rfl), gw_p 14 (by rfl) (by rfl), gw_t 1 (by rfl) (by rfl), k_yX7_countOrdersHeld, by decide +kernel, by decide +kernel, _, _, rfl⟩
set_option maxRecDepth 100000 in
theorem mvX7_167 : MV RX7 167 7 yX7_useLawInForce cX7_useLawInForce 1 none (((parseMethodDescriptor "()V").map (fun d => d.parameters.length)).getD 0) := ⟨gw_t 726 (by rfl) (by rfl), gw_t 728 (by rfl) (by rfl), gw_p 15 (by rfl) (by rfl), gw_t 1 (by rfl) (by rfl), k_yX7_useLawInForce, by decide +kernel, by decide +kernel, _, _, rfl⟩
set_option maxRecDepth 100000 in
theorem mvX7_170 : MV RX7 170 4 yX4_isHeld cX4_isHeld 5 (some .boolean) (((parseMethodDescriptor "(LYardTalk$World;II)Z").map (fun d => d.parameters.length)).getD 0) := ⟨gw_t 730 (by rfl) (by rfl), gw_t 731 (by rfl) (by rfl), gw_t 732 (by rfl) (by rfl), gw_t 5 (by rfl) (by rfl), k_yX4_isHeld, by decide +kernel, by decide +kernel, _, _, rfl⟩
set_option maxRecDepth 100000 in
theorem mvX4_40 : MV RX4 40 4 yX4_ofChild cX4_ofChild 3 none (((parseMethodDescriptor "(LYardTalk$World;I)V").map (fun d => d.parameters.length)).getD 0) := ⟨gw_t 734 (by rfl) (by rfl), gw_t 501 (by rfl) (by rfl), gw_t 502 (by rfl) (by rfl), gw_t 5 (by rfl) (by rfl), k_yX4_ofChild, by decide +kernel, by decide +kernel, _, _, rfl⟩
set_option maxRecDepth 100000 in
theorem mvX4_44 : MV RX4 44 4 yX4_ofTalk cX4_ofTalk 3 none (((parseMethodDescriptor "(ZZ)V").map (fun d => d.parameters.length)).getD 0) := ⟨gw_t 735 (by rfl) (by rfl), gw_t 514 (by rfl) (by rfl), gw_t 515 (by rfl) (by rfl), gw_t 5 (by rfl) (by rfl), k_yX4_ofTalk, by decide +kernel, by decide +kernel, _, _, rfl⟩
set_option maxRecDepth 100000 in
theorem mvX4_51 : MV RX4 51 4 yX4_valueOf cX4_valueOf 6 (some .int) (((parseMethodDescriptor "(II)I").map (fun d => d.parameters.length)).getD 0) := ⟨gw_t 736 (by rfl) (by rfl), gw_t 527 (by rfl) (by rfl), gw_t 528 (by rfl) (by rfl), gw_t 5 (by rfl) (by rfl), k_yX4_valueOf, by decide +kernel, by decide +kernel, _, _, rfl⟩
set_option maxRecDepth 100000 in
theorem mlL_166 : Cond.methodLink RL 166 ⟨"YardTalkLaw", "sign", "(LYardTalk;III[J)I"⟩ ∈ gw := gw_t 738 (by rfl) (by rfl)
set_option maxRecDepth 100000 in
theorem mvL_28 : MV RL 28 7 yX7_sign cX7_sign 4 (some .int) (((parseMethodDescriptor "(III)I").map (fun d => d.parameters.length)).getD 0) := ⟨gw_t 741 (by rfl) (by rfl), gw_t 742 (by rfl) (by rfl), gw_t 743 (by rfl) (by rfl), gw_t 1 (by rfl) (by rfl), k_yX7_sign, by decide +kernel, by decide +kernel, _, _, rfl⟩
set_option maxRecDepth 100000 in
theorem msX7_148 : MS RX7 148 yX7_checkConcept cX7_checkConcept 1 none (((parseMethodDescriptor "(I)V").map (fun d => d.parameters.length)).getD 0) := ⟨gw_t 745 (by rfl) (by rfl), gw_t 746 (by rfl) (by rfl), gw_t 1 (by rfl) (by rfl), k_yX7_checkConcept, by decide +kernel, by decide +kernel⟩
set_option maxRecDepth 100000 in
theorem msX7_151 : MS RX7 151 yX7_checkSign cX7_checkSign 1 none (((parseMethodDescriptor "(I)V").map (fun d => d.parameters.length)).getD 0) := ⟨gw_t 749 (by rfl) (by rfl), gw_t 750 (by rfl) (by rfl), gw_t 1 (by rfl) (by rfl), k_yX7_checkSign, by decide +kernel, by decide +kernel⟩
set_option maxRecDepth 100000 in
theorem msX7_157 : MS RX7 157 yX7_signIndex cX7_signIndex 3 (some .int) (((parseMethodDescriptor "(III)I").map (fun d => d.parameters.length)).getD 0) := ⟨gw_t 753 (by rfl) (by rfl), gw_t 477 (by rfl) (by rfl), gw_t 1 (by rfl) (by rfl), k_yX7_signIndex, by decide +kernel, by decide +kernel⟩
set_option maxRecDepth 100000 in
theorem mlL_170 : Cond.methodLink RL 170 ⟨"YardTalkLaw", "order", "(LYardTalk;II[J)I"⟩ ∈ gw := gw_t 754 (by rfl) (by rfl)
set_option maxRecDepth 100000 in
theorem mvL_32 : MV RL 32 7 yX7_order cX7_order 3 (some .int) (((parseMethodDescriptor "(II)I").map (fun d => d.parameters.length)).getD 0) := ⟨gw_t 757 (by rfl) (by rfl), gw_t 758 (by rfl) (by rfl), gw_t 759 (by rfl) (by rfl), gw_t 1 (by rfl) (by rfl), k_yX7_order, by decide +kernel, by decide +kernel, _, _, rfl⟩
set_option maxRecDepth 100000 in
theorem msX7_161 : MS RX7 161 yX7_checkOrder cX7_checkOrder 1 none (((parseMethodDescriptor "(I)V").map (fun d => d.parameters.length)).getD 0) := ⟨gw_t 761 (by rfl) (by rfl), gw_t 762 (by rfl) (by rfl), gw_t 1 (by rfl) (by rfl), k_yX7_checkOrder, by decide +kernel, by decide +kernel⟩
set_option maxRecDepth 100000 in
theorem mlL_173 : Cond.methodLink RL 173 ⟨"YardTalkLaw", "holds", "(LYardTalk;II[J)I"⟩ ∈ gw := gw_t 765 (by rfl) (by rfl)
set_option maxRecDepth 100000 in
theorem mvL_35 : MV RL 35 7 yX7_holds cX7_holds 3 (some .boolean) (((parseMethodDescriptor "(II)Z").map (fun d => d.parameters.length)).getD 0) := ⟨gw_t 768 (by rfl) (by rfl), gw_t 769 (by rfl) (by rfl), gw_t 770 (by rfl) (by rfl), gw_t 1 (by rfl) (by rfl), k_yX7_holds, by decide +kernel, by decide +kernel, _, _, rfl⟩
set_option maxRecDepth 100000 in
theorem mlL_176 : Cond.methodLink RL 176 ⟨"YardTalkLaw", "set", "(LYardTalk;II[J)I"⟩ ∈ gw := gw_t 772 (by rfl) (by rfl)
set_option maxRecDepth 100000 in
theorem mvL_39 : MV RL 39 7 yX7_set cX7_set 4 (some .int) (((parseMethodDescriptor "(II)I").map (fun d => d.parameters.length)).getD 0) := ⟨gw_t 775 (by rfl) (by rfl), gw_t 776 (by rfl) (by rfl), gw_t 777 (by rfl) (by rfl), gw_t 1 (by rfl) (by rfl), k_yX7_set, by decide +kernel, by decide +kernel, _, _, rfl⟩
set_option maxRecDepth 100000 in
theorem mlL_179 : Cond.methodLink RL 179 ⟨"YardTalkLaw", "years", "(LYardTalk;I[J)I"⟩ ∈ gw := gw_t 780 (by rfl) (by rfl)
set_option maxRecDepth 100000 in
theorem mvL_42 : MV RL 42 7 yX7_years cX7_years 2 (some .int) (((parseMethodDescriptor "(I)I").map (fun d => d.parameters.length)).getD 0) := ⟨gw_t 784 (by rfl) (by rfl), gw_t 785 (by rfl) (by rfl), gw_t 786 (by rfl) (by rfl), gw_t 1 (by rfl) (by rfl), k_yX7_years, by decide +kernel, by decide +kernel, _, _, rfl⟩
set_option maxRecDepth 100000 in
theorem mlX7_191 : Cond.methodLink RX7 191 ⟨"java/lang/IllegalStateException", "<init>", "(Ljava/lang/String;)V"⟩ ∈ gw := gw_t 799 (by rfl) (by rfl)
set_option maxRecDepth 100000 in
theorem mlL_186 : Cond.methodLink RL 186 ⟨"YardTalkLaw", "law", "(LYardTalk;I[J)I"⟩ ∈ gw := gw_t 805 (by rfl) (by rfl)
set_option maxRecDepth 100000 in
theorem mvL_47 : MV RL 47 7 yX7_law cX7_law 3 (some .int) (((parseMethodDescriptor "(I)I").map (fun d => d.parameters.length)).getD 0) := ⟨gw_t 808 (by rfl) (by rfl), gw_t 809 (by rfl) (by rfl), gw_t 810 (by rfl) (by rfl), gw_t 1 (by rfl) (by rfl), k_yX7_law, by decide +kernel, by decide +kernel, _, _, rfl⟩
set_option maxRecDepth 100000 in
theorem mvX7_197 : MV RX7 197 2 yX2_findFault cX2_findFault 5 (some .int) (((parseMethodDescriptor "([IILYardTalk$Law;)I").map (fun d => d.parameters.length)).getD 0) := ⟨gw_t 813 (by rfl) (by rfl), gw_t 814 (by rfl) (by rfl), gw_t 815 (by rfl) (by rfl), gw_t 6 (by rfl) (by rfl), k_yX2_findFault, by decide +kernel, by decide +kernel, _, _, rfl⟩
set_option maxRecDepth 100000 in
theorem msX2_41 : MS RX2 41 yJ9_min_7cf53 cJ9_min_7cf53 2 (some .int) (((parseMethodDescriptor "(II)I").map (fun d => d.parameters.length)).getD 0) := ⟨gw_t 817 (by rfl) (by rfl), gw_t 541 (by rfl) (by rfl), gw_t 15 (by rfl) (by rfl), k_yJ9_min_7cf53, by decide +kernel, by decide +kernel⟩
set_option maxRecDepth 100000 in
theorem mvX2_47 : MV RX2 47 1 yX1_clear cX1_clear 1 none (((parseMethodDescriptor "()V").map (fun d => d.parameters.length)).getD 0) := ⟨gw_t 818 (by rfl) (by rfl), gw_t 819 (by rfl) (by rfl), gw_t 820 (by rfl) (by rfl), gw_t 8 (by rfl) (by rfl), k_yX1_clear, by decide +kernel, by decide +kernel, _, _, rfl⟩
set_option maxRecDepth 100000 in
theorem mvX2_52 : MV RX2 52 2 yX2_step cX2_step 1 none (((parseMethodDescriptor "()V").map (fun d => d.parameters.length)).getD 0) := ⟨gw_t 822 (by rfl) (by rfl), gw_t 824 (by rfl) (by rfl), gw_p 16 (by rfl) (by rfl), gw_t 6 (by rfl) (by rfl), k_yX2_step, by decide +kernel, by decide +kernel, _, _, rfl⟩
set_option maxRecDepth 100000 in
theorem msX2_59 : MS RX2 59 yX2_isDigit cX2_isDigit 1 (some .boolean) (((parseMethodDescriptor "(I)Z").map (fun d => d.parameters.length)).getD 0) := ⟨gw_t 826 (by rfl) (by rfl), gw_t 827 (by rfl) (by rfl), gw_t 6 (by rfl) (by rfl), k_yX2_isDigit, by decide +kernel, by decide +kernel⟩
set_option maxRecDepth 100000 in
theorem mvX2_62 : MV RX2 62 2 yX2_readNumber cX2_readNumber 1 none (((parseMethodDescriptor "()V").map (fun d => d.parameters.length)).getD 0) := ⟨gw_t 829 (by rfl) (by rfl), gw_t 831 (by rfl) (by rfl), gw_p 17 (by rfl) (by rfl), gw_t 6 (by rfl) (by rfl), k_yX2_readNumber, by decide +kernel, by decide +kernel, _, _, rfl⟩
set_option maxRecDepth 100000 in
theorem msX2_65 : MS RX2 65 yX2_isLetter cX2_isLetter 1 (some .boolean) (((parseMethodDescriptor "(I)Z").map (fun d => d.parameters.length)).getD 0) := ⟨gw_t 833 (by rfl) (by rfl), gw_t 834 (by rfl) (by rfl), gw_t 6 (by rfl) (by rfl), k_yX2_isLetter, by decide +kernel, by decide +kernel⟩
set_option maxRecDepth 100000 in
theorem mvX2_55 : MV RX2 55 2 yX2_readClause cX2_readClause 3 (some .boolean) (((parseMethodDescriptor "(I)Z").map (fun d => d.parameters.length)).getD 0) := ⟨gw_t 836 (by rfl) (by rfl), gw_t 838 (by rfl) (by rfl), gw_p 18 (by rfl) (by rfl), gw_t 6 (by rfl) (by rfl), k_yX2_readClause, by decide +kernel, by decide +kernel, _, _, rfl⟩
set_option maxRecDepth 100000 in
theorem mvX2_87 : MV RX2 87 2 yX2_clauseWord cX2_clauseWord 1 (some .int) (((parseMethodDescriptor "()I").map (fun d => d.parameters.length)).getD 0) := ⟨gw_t 840 (by rfl) (by rfl), gw_t 842 (by rfl) (by rfl), gw_p 19 (by rfl) (by rfl), gw_t 6 (by rfl) (by rfl), k_yX2_clauseWord, by decide +kernel, by decide +kernel, _, _, rfl⟩
set_option maxRecDepth 100000 in
theorem mvX2_102 : MV RX2 102 2 yX2_isAt_ cX2_isAt_ 3 (some .boolean) (((parseMethodDescriptor "(Ljava/lang/String;)Z").map (fun d => d.parameters.length)).getD 0) := ⟨gw_t 845 (by rfl) (by rfl), gw_t 847 (by rfl) (by rfl), gw_p 20 (by rfl) (by rfl), gw_t 6 (by rfl) (by rfl), k_yX2_isAt_, by decide +kernel, by decide +kernel, _, _, rfl⟩
set_option maxRecDepth 100000 in
theorem mlX2_68 : Cond.methodLink RX2 68 yJ0_length_8abf5 ∈ gw := gw_t 849 (by rfl) (by rfl)
set_option maxRecDepth 100000 in
theorem mlX2_73 : Cond.methodLink RX2 73 yJ0_charAt_5068e ∈ gw := gw_t 859 (by rfl) (by rfl)
set_option maxRecDepth 100000 in
theorem mvX2_81 : MV RX2 81 2 yX2_refuse cX2_refuse 2 (some .boolean) (((parseMethodDescriptor "(I)Z").map (fun d => d.parameters.length)).getD 0) := ⟨gw_t 900 (by rfl) (by rfl), gw_t 902 (by rfl) (by rfl), gw_p 21 (by rfl) (by rfl), gw_t 6 (by rfl) (by rfl), k_yX2_refuse, by decide +kernel, by decide +kernel, _, _, rfl⟩
set_option maxRecDepth 100000 in
theorem mvX2_90 : MV RX2 90 1 yX1_beginClause cX1_beginClause 2 none (((parseMethodDescriptor "(I)V").map (fun d => d.parameters.length)).getD 0) := ⟨gw_t 904 (by rfl) (by rfl), gw_t 905 (by rfl) (by rfl), gw_t 906 (by rfl) (by rfl), gw_t 8 (by rfl) (by rfl), k_yX1_beginClause, by decide +kernel, by decide +kernel, _, _, rfl⟩
set_option maxRecDepth 100000 in
theorem mvX2_94 : MV RX2 94 2 yX2_readSum cX2_readSum 5 (some .boolean) (((parseMethodDescriptor "(I)Z").map (fun d => d.parameters.length)).getD 0) := ⟨gw_t 908 (by rfl) (by rfl), gw_t 910 (by rfl) (by rfl), gw_p 22 (by rfl) (by rfl), gw_t 6 (by rfl) (by rfl), k_yX2_readSum, by decide +kernel, by decide +kernel, _, _, rfl⟩
set_option maxRecDepth 100000 in
theorem mvX2_119 : MV RX2 119 2 yX2_readProduct cX2_readProduct 5 (some .boolean) (((parseMethodDescriptor "(I)Z").map (fun d => d.parameters.length)).getD 0) := ⟨gw_t 912 (by rfl) (by rfl), gw_t 914 (by rfl) (by rfl), gw_p 23 (by rfl) (by rfl), gw_t 6 (by rfl) (by rfl), k_yX2_readProduct, by decide +kernel, by decide +kernel, _, _, rfl⟩
set_option maxRecDepth 100000 in
theorem mvX2_125 : MV RX2 125 2 yX2_readUnit cX2_readUnit 3 (some .boolean) (((parseMethodDescriptor "(I)Z").map (fun d => d.parameters.length)).getD 0) := ⟨gw_t 916 (by rfl) (by rfl), gw_t 918 (by rfl) (by rfl), gw_p 24 (by rfl) (by rfl), gw_t 6 (by rfl) (by rfl), k_yX2_readUnit, by decide +kernel, by decide +kernel, _, _, rfl⟩
set_option maxRecDepth 100000 in
theorem mvX2_122 : MV RX2 122 1 yX1_put cX1_put 2 none (((parseMethodDescriptor "(I)V").map (fun d => d.parameters.length)).getD 0) := ⟨gw_t 920 (by rfl) (by rfl), gw_t 921 (by rfl) (by rfl), gw_t 922 (by rfl) (by rfl), gw_t 8 (by rfl) (by rfl), k_yX1_put, by decide +kernel, by decide +kernel, _, _, rfl⟩
set_option maxRecDepth 100000 in
theorem mvX2_77 : MV RX2 77 2 yX2_isAt cX2_isAt 2 (some .boolean) (((parseMethodDescriptor "(C)Z").map (fun d => d.parameters.length)).getD 0) := ⟨gw_t 924 (by rfl) (by rfl), gw_t 926 (by rfl) (by rfl), gw_p 25 (by rfl) (by rfl), gw_t 6 (by rfl) (by rfl), k_yX2_isAt, by decide +kernel, by decide +kernel, _, _, rfl⟩
set_option maxRecDepth 100000 in
theorem mvX2_128 : MV RX2 128 2 yX2_passOpening cX2_passOpening 3 (some .boolean) (((parseMethodDescriptor "(CI)Z").map (fun d => d.parameters.length)).getD 0) := ⟨gw_t 928 (by rfl) (by rfl), gw_t 930 (by rfl) (by rfl), gw_p 26 (by rfl) (by rfl), gw_t 6 (by rfl) (by rfl), k_yX2_passOpening, by decide +kernel, by decide +kernel, _, _, rfl⟩
set_option maxRecDepth 100000 in
theorem mvX2_84 : MV RX2 84 2 yX2_pass cX2_pass 2 (some .boolean) (((parseMethodDescriptor "(C)Z").map (fun d => d.parameters.length)).getD 0) := ⟨gw_t 932 (by rfl) (by rfl), gw_t 934 (by rfl) (by rfl), gw_p 27 (by rfl) (by rfl), gw_t 6 (by rfl) (by rfl), k_yX2_pass, by decide +kernel, by decide +kernel, _, _, rfl⟩
set_option maxRecDepth 100000 in
theorem mvX2_134 : MV RX2 134 2 yX2_readCouple cX2_readCouple 4 (some .boolean) (((parseMethodDescriptor "(II)Z").map (fun d => d.parameters.length)).getD 0) := ⟨gw_t 937 (by rfl) (by rfl), gw_t 939 (by rfl) (by rfl), gw_p 28 (by rfl) (by rfl), gw_t 6 (by rfl) (by rfl), k_yX2_readCouple, by decide +kernel, by decide +kernel, _, _, rfl⟩
set_option maxRecDepth 100000 in
theorem mvX2_140 : MV RX2 140 2 yX2_factName cX2_factName 1 (some .int) (((parseMethodDescriptor "()I").map (fun d => d.parameters.length)).getD 0) := ⟨gw_t 942 (by rfl) (by rfl), gw_t 944 (by rfl) (by rfl), gw_p 29 (by rfl) (by rfl), gw_t 6 (by rfl) (by rfl), k_yX2_factName, by decide +kernel, by decide +kernel, _, _, rfl⟩
set_option maxRecDepth 100000 in
theorem mvX2_97 : MV RX2 97 1 yX1_closeValue cX1_closeValue 1 none (((parseMethodDescriptor "()V").map (fun d => d.parameters.length)).getD 0) := ⟨gw_t 952 (by rfl) (by rfl), gw_t 953 (by rfl) (by rfl), gw_t 954 (by rfl) (by rfl), gw_t 8 (by rfl) (by rfl), k_yX1_closeValue, by decide +kernel, by decide +kernel, _, _, rfl⟩
set_option maxRecDepth 100000 in
theorem mvX2_105 : MV RX2 105 2 yX2_readEither cX2_readEither 4 (some .boolean) (((parseMethodDescriptor "(I)Z").map (fun d => d.parameters.length)).getD 0) := ⟨gw_t 957 (by rfl) (by rfl), gw_t 959 (by rfl) (by rfl), gw_p 30 (by rfl) (by rfl), gw_t 6 (by rfl) (by rfl), k_yX2_readEither, by decide +kernel, by decide +kernel, _, _, rfl⟩
set_option maxRecDepth 100000 in
theorem mvX2_155 : MV RX2 155 2 yX2_readBoth cX2_readBoth 4 (some .boolean) (((parseMethodDescriptor "(I)Z").map (fun d => d.parameters.length)).getD 0) := ⟨gw_t 961 (by rfl) (by rfl), gw_t 963 (by rfl) (by rfl), gw_p 31 (by rfl) (by rfl), gw_t 6 (by rfl) (by rfl), k_yX2_readBoth, by decide +kernel, by decide +kernel, _, _, rfl⟩
set_option maxRecDepth 100000 in
theorem mvX2_160 : MV RX2 160 2 yX2_readBasic cX2_readBasic 3 (some .boolean) (((parseMethodDescriptor "(I)Z").map (fun d => d.parameters.length)).getD 0) := ⟨gw_t 965 (by rfl) (by rfl), gw_t 967 (by rfl) (by rfl), gw_p 32 (by rfl) (by rfl), gw_t 6 (by rfl) (by rfl), k_yX2_readBasic, by decide +kernel, by decide +kernel, _, _, rfl⟩
set_option maxRecDepth 100000 in
theorem mvX2_167 : MV RX2 167 2 yX2_readComparison cX2_readComparison 4 (some .boolean) (((parseMethodDescriptor "(I)Z").map (fun d => d.parameters.length)).getD 0) := ⟨gw_t 970 (by rfl) (by rfl), gw_t 972 (by rfl) (by rfl), gw_p 33 (by rfl) (by rfl), gw_t 6 (by rfl) (by rfl), k_yX2_readComparison, by decide +kernel, by decide +kernel, _, _, rfl⟩
set_option maxRecDepth 100000 in
theorem mvX2_108 : MV RX2 108 1 yX1_closeClause cX1_closeClause 1 none (((parseMethodDescriptor "()V").map (fun d => d.parameters.length)).getD 0) := ⟨gw_t 976 (by rfl) (by rfl), gw_t 977 (by rfl) (by rfl), gw_t 978 (by rfl) (by rfl), gw_t 8 (by rfl) (by rfl), k_yX1_closeClause, by decide +kernel, by decide +kernel, _, _, rfl⟩
set_option maxRecDepth 100000 in
theorem mlL_193 : Cond.methodLink RL 193 ⟨"YardTalkLaw", "force", "(LYardTalk;I[J)I"⟩ ∈ gw := gw_t 980 (by rfl) (by rfl)
set_option maxRecDepth 100000 in
theorem mvL_50 : MV RL 50 7 yX7_force cX7_force 3 (some .int) (((parseMethodDescriptor "(I)I").map (fun d => d.parameters.length)).getD 0) := ⟨gw_t 984 (by rfl) (by rfl), gw_t 985 (by rfl) (by rfl), gw_t 986 (by rfl) (by rfl), gw_t 1 (by rfl) (by rfl), k_yX7_force, by decide +kernel, by decide +kernel, _, _, rfl⟩
set_option maxRecDepth 100000 in
theorem mvX7_202 : MV RX7 202 7 yX7_checkLaw cX7_checkLaw 2 none (((parseMethodDescriptor "(I)V").map (fun d => d.parameters.length)).getD 0) := ⟨gw_t 988 (by rfl) (by rfl), gw_t 990 (by rfl) (by rfl), gw_p 34 (by rfl) (by rfl), gw_t 1 (by rfl) (by rfl), k_yX7_checkLaw, by decide +kernel, by decide +kernel, _, _, rfl⟩
set_option maxRecDepth 100000 in
theorem mlX7_247 : Cond.methodLink RX7 247 ⟨"java/lang/IndexOutOfBoundsException", "<init>", "(Ljava/lang/String;)V"⟩ ∈ gw := gw_t 1002 (by rfl) (by rfl)
set_option maxRecDepth 100000 in
theorem mlL_196 : Cond.methodLink RL 196 ⟨"YardTalkLaw", "talk", "(LYardTalk;IIIII[J)I"⟩ ∈ gw := gw_t 1008 (by rfl) (by rfl)
set_option maxRecDepth 100000 in
theorem mvL_55 : MV RL 55 7 yX7_talk cX7_talk 6 (some .int) (((parseMethodDescriptor "(IIIII)I").map (fun d => d.parameters.length)).getD 0) := ⟨gw_t 1011 (by rfl) (by rfl), gw_t 1012 (by rfl) (by rfl), gw_t 1013 (by rfl) (by rfl), gw_t 1 (by rfl) (by rfl), k_yX7_talk, by decide +kernel, by decide +kernel, _, _, rfl⟩
set_option maxRecDepth 100000 in
theorem msX7_208 : MS RX7 208 yX7_isOfFour cX7_isOfFour 1 (some .boolean) (((parseMethodDescriptor "(I)Z").map (fun d => d.parameters.length)).getD 0) := ⟨gw_t 1015 (by rfl) (by rfl), gw_t 1016 (by rfl) (by rfl), gw_t 1 (by rfl) (by rfl), k_yX7_isOfFour, by decide +kernel, by decide +kernel⟩
set_option maxRecDepth 100000 in
theorem mvX7_217 : MV RX7 217 6 yX6_areTogether cX6_areTogether 3 (some .boolean) (((parseMethodDescriptor "(II)Z").map (fun d => d.parameters.length)).getD 0) := ⟨gw_t 1019 (by rfl) (by rfl), gw_t 1020 (by rfl) (by rfl), gw_t 1021 (by rfl) (by rfl), gw_t 2 (by rfl) (by rfl), k_yX6_areTogether, by decide +kernel, by decide +kernel, _, _, rfl⟩
set_option maxRecDepth 100000 in
theorem mvX7_225 : MV RX7 225 7 yX7_makeNotedTalk cX7_makeNotedTalk 1 none (((parseMethodDescriptor "()V").map (fun d => d.parameters.length)).getD 0) := ⟨gw_t 1023 (by rfl) (by rfl), gw_t 1025 (by rfl) (by rfl), gw_p 35 (by rfl) (by rfl), gw_t 1 (by rfl) (by rfl), k_yX7_makeNotedTalk, by decide +kernel, by decide +kernel, _, _, rfl⟩
set_option maxRecDepth 100000 in
theorem mvX7_403 : MV RX7 403 3 yX3_write cX3_write 5 none (((parseMethodDescriptor "(LYardTalk$World;LYardTalk$Speech;)V").map (fun d => d.parameters.length)).getD 0) := ⟨gw_t 1027 (by rfl) (by rfl), gw_t 1028 (by rfl) (by rfl), gw_t 1029 (by rfl) (by rfl), gw_t 3 (by rfl) (by rfl), k_yX3_write, by decide +kernel, by decide +kernel, _, _, rfl⟩
set_option maxRecDepth 100000 in
theorem mvX7_410 : MV RX7 410 3 yX3_askWhatIsHeld cX3_askWhatIsHeld 6 none (((parseMethodDescriptor "(LYardTalk$World;LYardTalk$Ruling;I)V").map (fun d => d.parameters.length)).getD 0) := ⟨gw_t 1031 (by rfl) (by rfl), gw_t 1032 (by rfl) (by rfl), gw_t 1033 (by rfl) (by rfl), gw_t 3 (by rfl) (by rfl), k_yX3_askWhatIsHeld, by decide +kernel, by decide +kernel, _, _, rfl⟩
set_option maxRecDepth 100000 in
theorem mvX3_73 : MV RX3 73 4 yX4_isHeld cX4_isHeld 5 (some .boolean) (((parseMethodDescriptor "(LYardTalk$World;II)Z").map (fun d => d.parameters.length)).getD 0) := ⟨gw_t 1035 (by rfl) (by rfl), gw_t 731 (by rfl) (by rfl), gw_t 732 (by rfl) (by rfl), gw_t 5 (by rfl) (by rfl), k_yX4_isHeld, by decide +kernel, by decide +kernel, _, _, rfl⟩
set_option maxRecDepth 100000 in
theorem mlL_200 : Cond.methodLink RL 200 ⟨"YardTalkLaw", "run", "(LYardTalk;II[J)I"⟩ ∈ gw := gw_t 1036 (by rfl) (by rfl)
set_option maxRecDepth 100000 in
theorem mvL_59 : MV RL 59 7 yX7_run cX7_run 5 (some .int) (((parseMethodDescriptor "(II)I").map (fun d => d.parameters.length)).getD 0) := ⟨gw_t 1039 (by rfl) (by rfl), gw_t 1040 (by rfl) (by rfl), gw_t 1041 (by rfl) (by rfl), gw_t 1 (by rfl) (by rfl), k_yX7_run, by decide +kernel, by decide +kernel, _, _, rfl⟩
set_option maxRecDepth 100000 in
theorem msX7_232 : MS RX7 232 yX7_checkRunLength cX7_checkRunLength 1 none (((parseMethodDescriptor "(I)V").map (fun d => d.parameters.length)).getD 0) := ⟨gw_t 1043 (by rfl) (by rfl), gw_t 1044 (by rfl) (by rfl), gw_t 1 (by rfl) (by rfl), k_yX7_checkRunLength, by decide +kernel, by decide +kernel⟩
set_option maxRecDepth 100000 in
theorem mvX7_235 : MV RX7 235 6 yX6_gather cX6_gather 5 (some .int) (((parseMethodDescriptor "(I[I)I").map (fun d => d.parameters.length)).getD 0) := ⟨gw_t 1047 (by rfl) (by rfl), gw_t 1048 (by rfl) (by rfl), gw_t 1049 (by rfl) (by rfl), gw_t 2 (by rfl) (by rfl), k_yX6_gather, by decide +kernel, by decide +kernel, _, _, rfl⟩
set_option maxRecDepth 100000 in
theorem mvX7_239 : MV RX7 239 7 yX7_drawTalk cX7_drawTalk 8 none (((parseMethodDescriptor "(LYardTalk$World;I)V").map (fun d => d.parameters.length)).getD 0) := ⟨gw_t 1051 (by rfl) (by rfl), gw_t 1053 (by rfl) (by rfl), gw_p 36 (by rfl) (by rfl), gw_t 1 (by rfl) (by rfl), k_yX7_drawTalk, by decide +kernel, by decide +kernel, _, _, rfl⟩
set_option maxRecDepth 100000 in
theorem mvX7_396 : MV RX7 396 6 yX6_drawChoice cX6_drawChoice 2 (some .int) (((parseMethodDescriptor "(I)I").map (fun d => d.parameters.length)).getD 0) := ⟨gw_t 1055 (by rfl) (by rfl), gw_t 1056 (by rfl) (by rfl), gw_t 1057 (by rfl) (by rfl), gw_t 2 (by rfl) (by rfl), k_yX6_drawChoice, by decide +kernel, by decide +kernel, _, _, rfl⟩
set_option maxRecDepth 100000 in
theorem mlL_203 : Cond.methodLink RL 203 ⟨"YardTalkLaw", "note", "(LYardTalk;II[J)I"⟩ ∈ gw := gw_t 1059 (by rfl) (by rfl)
set_option maxRecDepth 100000 in
theorem mvL_62 : MV RL 62 7 yX7_note cX7_note 3 (some .int) (((parseMethodDescriptor "(II)I").map (fun d => d.parameters.length)).getD 0) := ⟨gw_t 1062 (by rfl) (by rfl), gw_t 1063 (by rfl) (by rfl), gw_t 1064 (by rfl) (by rfl), gw_t 1 (by rfl) (by rfl), k_yX7_note, by decide +kernel, by decide +kernel, _, _, rfl⟩
set_option maxRecDepth 100000 in
theorem mlL_206 : Cond.methodLink RL 206 ⟨"YardTalkLaw", "share", "(LYardTalk;IIIZ[J)I"⟩ ∈ gw := gw_t 1067 (by rfl) (by rfl)
set_option maxRecDepth 100000 in
theorem mvL_65 : MV RL 65 7 yX7_share cX7_share 7 (some .int) (((parseMethodDescriptor "(IIIZ)I").map (fun d => d.parameters.length)).getD 0) := ⟨gw_t 1070 (by rfl) (by rfl), gw_t 1071 (by rfl) (by rfl), gw_t 1072 (by rfl) (by rfl), gw_t 1 (by rfl) (by rfl), k_yX7_share, by decide +kernel, by decide +kernel, _, _, rfl⟩
set_option maxRecDepth 100000 in
theorem msX7_252 : MS RX7 252 yX7_checkKind cX7_checkKind 1 none (((parseMethodDescriptor "(I)V").map (fun d => d.parameters.length)).getD 0) := ⟨gw_t 1074 (by rfl) (by rfl), gw_t 1075 (by rfl) (by rfl), gw_t 1 (by rfl) (by rfl), k_yX7_checkKind, by decide +kernel, by decide +kernel⟩
set_option maxRecDepth 100000 in
theorem mlL_210 : Cond.methodLink RL 210 ⟨"YardTalkLaw", "held", "(LYardTalk;II[J)I"⟩ ∈ gw := gw_t 1078 (by rfl) (by rfl)
set_option maxRecDepth 100000 in
theorem mvL_69 : MV RL 69 7 yX7_held cX7_held 3 (some .int) (((parseMethodDescriptor "(II)I").map (fun d => d.parameters.length)).getD 0) := ⟨gw_t 1081 (by rfl) (by rfl), gw_t 1082 (by rfl) (by rfl), gw_t 1083 (by rfl) (by rfl), gw_t 1 (by rfl) (by rfl), k_yX7_held, by decide +kernel, by decide +kernel, _, _, rfl⟩
set_option maxRecDepth 100000 in
theorem mvX7_255 : MV RX7 255 7 yX7_countHolders cX7_countHolders 6 (some .int) (((parseMethodDescriptor "(LYardTalk$World;II)I").map (fun d => d.parameters.length)).getD 0) := ⟨gw_t 1085 (by rfl) (by rfl), gw_t 1087 (by rfl) (by rfl), gw_p 37 (by rfl) (by rfl), gw_t 1 (by rfl) (by rfl), k_yX7_countHolders, by decide +kernel, by decide +kernel, _, _, rfl⟩
set_option maxRecDepth 100000 in
theorem mvX7_393 : MV RX7 393 6 yX6_isThere cX6_isThere 3 (some .boolean) (((parseMethodDescriptor "(II)Z").map (fun d => d.parameters.length)).getD 0) := ⟨gw_t 1089 (by rfl) (by rfl), gw_t 587 (by rfl) (by rfl), gw_t 588 (by rfl) (by rfl), gw_t 2 (by rfl) (by rfl), k_yX6_isThere, by decide +kernel, by decide +kernel, _, _, rfl⟩
set_option maxRecDepth 100000 in
theorem mlL_213 : Cond.methodLink RL 213 ⟨"YardTalkLaw", "first", "(LYardTalk;II[J)I"⟩ ∈ gw := gw_t 1090 (by rfl) (by rfl)
set_option maxRecDepth 100000 in
theorem mvL_72 : MV RL 72 7 yX7_first cX7_first 3 (some .int) (((parseMethodDescriptor "(II)I").map (fun d => d.parameters.length)).getD 0) := ⟨gw_t 1093 (by rfl) (by rfl), gw_t 1094 (by rfl) (by rfl), gw_t 1095 (by rfl) (by rfl), gw_t 1 (by rfl) (by rfl), k_yX7_first, by decide +kernel, by decide +kernel, _, _, rfl⟩
set_option maxRecDepth 100000 in
theorem mlL_216 : Cond.methodLink RL 216 ⟨"YardTalkLaw", "back", "(LYardTalk;III[J)I"⟩ ∈ gw := gw_t 1097 (by rfl) (by rfl)
set_option maxRecDepth 100000 in
theorem mvL_75 : MV RL 75 7 yX7_back cX7_back 6 (some .int) (((parseMethodDescriptor "(III)I").map (fun d => d.parameters.length)).getD 0) := ⟨gw_t 1100 (by rfl) (by rfl), gw_t 1101 (by rfl) (by rfl), gw_t 1102 (by rfl) (by rfl), gw_t 1 (by rfl) (by rfl), k_yX7_back, by decide +kernel, by decide +kernel, _, _, rfl⟩
set_option maxRecDepth 100000 in
theorem mvX7_265 : MV RX7 265 3 yX3_isLearnt cX3_isLearnt 4 (some .boolean) (((parseMethodDescriptor "(III)Z").map (fun d => d.parameters.length)).getD 0) := ⟨gw_t 1104 (by rfl) (by rfl), gw_t 1105 (by rfl) (by rfl), gw_t 1106 (by rfl) (by rfl), gw_t 3 (by rfl) (by rfl), k_yX3_isLearnt, by decide +kernel, by decide +kernel, _, _, rfl⟩
set_option maxRecDepth 100000 in
theorem mlL_219 : Cond.methodLink RL 219 ⟨"YardTalkLaw", "uses", "(LYardTalk;II[J)I"⟩ ∈ gw := gw_t 1108 (by rfl) (by rfl)
set_option maxRecDepth 100000 in
theorem mvL_78 : MV RL 78 7 yX7_uses cX7_uses 3 (some .int) (((parseMethodDescriptor "(II)I").map (fun d => d.parameters.length)).getD 0) := ⟨gw_t 1111 (by rfl) (by rfl), gw_t 1112 (by rfl) (by rfl), gw_t 1113 (by rfl) (by rfl), gw_t 1 (by rfl) (by rfl), k_yX7_uses, by decide +kernel, by decide +kernel, _, _, rfl⟩
set_option maxRecDepth 100000 in
theorem mlL_222 : Cond.methodLink RL 222 ⟨"YardTalkLaw", "seen", "(LYardTalk;II[J)I"⟩ ∈ gw := gw_t 1115 (by rfl) (by rfl)
set_option maxRecDepth 100000 in
theorem mvL_81 : MV RL 81 7 yX7_seen cX7_seen 3 (some .int) (((parseMethodDescriptor "(II)I").map (fun d => d.parameters.length)).getD 0) := ⟨gw_t 1118 (by rfl) (by rfl), gw_t 1119 (by rfl) (by rfl), gw_t 1120 (by rfl) (by rfl), gw_t 1 (by rfl) (by rfl), k_yX7_seen, by decide +kernel, by decide +kernel, _, _, rfl⟩
set_option maxRecDepth 100000 in
theorem mvX7_272 : MV RX7 272 6 yX6_seenAs cX6_seenAs 3 (some .int) (((parseMethodDescriptor "(II)I").map (fun d => d.parameters.length)).getD 0) := ⟨gw_t 1122 (by rfl) (by rfl), gw_t 518 (by rfl) (by rfl), gw_t 519 (by rfl) (by rfl), gw_t 2 (by rfl) (by rfl), k_yX6_seenAs, by decide +kernel, by decide +kernel, _, _, rfl⟩
set_option maxRecDepth 100000 in
theorem mlL_233 : Cond.methodLink RL 233 ⟨"YardTalkLaw", "gap", "(LYardTalk;II[J)I"⟩ ∈ gw := gw_t 1123 (by rfl) (by rfl)
set_option maxRecDepth 100000 in
theorem mvL_84 : MV RL 84 7 yX7_gap cX7_gap 3 (some .int) (((parseMethodDescriptor "(II)I").map (fun d => d.parameters.length)).getD 0) := ⟨gw_t 1126 (by rfl) (by rfl), gw_t 1127 (by rfl) (by rfl), gw_t 1128 (by rfl) (by rfl), gw_t 1 (by rfl) (by rfl), k_yX7_gap, by decide +kernel, by decide +kernel, _, _, rfl⟩
set_option maxRecDepth 100000 in
theorem mvX7_278 : MV RX7 278 7 yX7_checkFilm cX7_checkFilm 2 none (((parseMethodDescriptor "(I)V").map (fun d => d.parameters.length)).getD 0) := ⟨gw_t 1130 (by rfl) (by rfl), gw_t 1132 (by rfl) (by rfl), gw_p 38 (by rfl) (by rfl), gw_t 1 (by rfl) (by rfl), k_yX7_checkFilm, by decide +kernel, by decide +kernel, _, _, rfl⟩
set_option maxRecDepth 100000 in
theorem mlL_236 : Cond.methodLink RL 236 ⟨"YardTalkLaw", "fits", "(LYardTalk;II[J)I"⟩ ∈ gw := gw_t 1136 (by rfl) (by rfl)
set_option maxRecDepth 100000 in
theorem mvL_87 : MV RL 87 7 yX7_fits cX7_fits 3 (some .int) (((parseMethodDescriptor "(II)I").map (fun d => d.parameters.length)).getD 0) := ⟨gw_t 1139 (by rfl) (by rfl), gw_t 1140 (by rfl) (by rfl), gw_t 1141 (by rfl) (by rfl), gw_t 1 (by rfl) (by rfl), k_yX7_fits, by decide +kernel, by decide +kernel, _, _, rfl⟩
set_option maxRecDepth 100000 in
theorem mlL_243 : Cond.methodLink RL 243 ⟨"YardTalkLaw", "trial", "(LYardTalk;IIII[J)I"⟩ ∈ gw := gw_t 1143 (by rfl) (by rfl)
set_option maxRecDepth 100000 in
theorem mvL_90 : MV RL 90 7 yX7_trial cX7_trial 5 (some .int) (((parseMethodDescriptor "(IIII)I").map (fun d => d.parameters.length)).getD 0) := ⟨gw_t 1146 (by rfl) (by rfl), gw_t 1147 (by rfl) (by rfl), gw_t 1148 (by rfl) (by rfl), gw_t 1 (by rfl) (by rfl), k_yX7_trial, by decide +kernel, by decide +kernel, _, _, rfl⟩
set_option maxRecDepth 100000 in
theorem msX7_291 : MS RX7 291 yX7_checkTrial cX7_checkTrial 3 none (((parseMethodDescriptor "(III)V").map (fun d => d.parameters.length)).getD 0) := ⟨gw_t 1150 (by rfl) (by rfl), gw_t 1151 (by rfl) (by rfl), gw_t 1 (by rfl) (by rfl), k_yX7_checkTrial, by decide +kernel, by decide +kernel⟩
set_option maxRecDepth 100000 in
theorem mvX7_307 : MV RX7 307 7 yX7_tryOut cX7_tryOut 6 (some .int) (((parseMethodDescriptor "(III)I").map (fun d => d.parameters.length)).getD 0) := ⟨gw_t 1153 (by rfl) (by rfl), gw_t 1155 (by rfl) (by rfl), gw_p 39 (by rfl) (by rfl), gw_t 1 (by rfl) (by rfl), k_yX7_tryOut, by decide +kernel, by decide +kernel, _, _, rfl⟩
set_option maxRecDepth 100000 in
theorem mlL_247 : Cond.methodLink RL 247 ⟨"YardTalkLaw", "fewest", "(LYardTalk;IIII[J)I"⟩ ∈ gw := gw_t 1157 (by rfl) (by rfl)
set_option maxRecDepth 100000 in
theorem mvL_94 : MV RL 94 7 yX7_fewest cX7_fewest 7 (some .int) (((parseMethodDescriptor "(IIII)I").map (fun d => d.parameters.length)).getD 0) := ⟨gw_t 1160 (by rfl) (by rfl), gw_t 1161 (by rfl) (by rfl), gw_t 1162 (by rfl) (by rfl), gw_t 1 (by rfl) (by rfl), k_yX7_fewest, by decide +kernel, by decide +kernel, _, _, rfl⟩
set_option maxRecDepth 100000 in
theorem mvX7_312 : MV RX7 312 6 yX6_keepFirst cX6_keepFirst 5 none (((parseMethodDescriptor "(II)V").map (fun d => d.parameters.length)).getD 0) := ⟨gw_t 1165 (by rfl) (by rfl), gw_t 1166 (by rfl) (by rfl), gw_t 1167 (by rfl) (by rfl), gw_t 2 (by rfl) (by rfl), k_yX6_keepFirst, by decide +kernel, by decide +kernel, _, _, rfl⟩
set_option maxRecDepth 100000 in
theorem mlL_250 : Cond.methodLink RL 250 ⟨"YardTalkLaw", "needed", "(LYardTalk;III[J)I"⟩ ∈ gw := gw_t 1169 (by rfl) (by rfl)
set_option maxRecDepth 100000 in
theorem mvL_97 : MV RL 97 7 yX7_needed cX7_needed 8 (some .int) (((parseMethodDescriptor "(III)I").map (fun d => d.parameters.length)).getD 0) := ⟨gw_t 1172 (by rfl) (by rfl), gw_t 1173 (by rfl) (by rfl), gw_t 1174 (by rfl) (by rfl), gw_t 1 (by rfl) (by rfl), k_yX7_needed, by decide +kernel, by decide +kernel, _, _, rfl⟩
set_option maxRecDepth 100000 in
theorem mlL_253 : Cond.methodLink RL 253 ⟨"YardTalkLaw", "unlike", "(LYardTalk;II[J)I"⟩ ∈ gw := gw_t 1176 (by rfl) (by rfl)
set_option maxRecDepth 100000 in
theorem mvL_100 : MV RL 100 7 yX7_unlike cX7_unlike 3 (some .int) (((parseMethodDescriptor "(II)I").map (fun d => d.parameters.length)).getD 0) := ⟨gw_t 1179 (by rfl) (by rfl), gw_t 1180 (by rfl) (by rfl), gw_t 1181 (by rfl) (by rfl), gw_t 1 (by rfl) (by rfl), k_yX7_unlike, by decide +kernel, by decide +kernel, _, _, rfl⟩
set_option maxRecDepth 100000 in
theorem mvX7_322 : MV RX7 322 7 yX7_countUnlike cX7_countUnlike 5 (some .int) (((parseMethodDescriptor "(II)I").map (fun d => d.parameters.length)).getD 0) := ⟨gw_t 1183 (by rfl) (by rfl), gw_t 1185 (by rfl) (by rfl), gw_p 40 (by rfl) (by rfl), gw_t 1 (by rfl) (by rfl), k_yX7_countUnlike, by decide +kernel, by decide +kernel, _, _, rfl⟩
set_option maxRecDepth 100000 in
theorem mvX7_427 : MV RX7 427 6 yX6_orderOfYard cX6_orderOfYard 7 (some .int) (((parseMethodDescriptor "(I)I").map (fun d => d.parameters.length)).getD 0) := ⟨gw_t 1187 (by rfl) (by rfl), gw_t 1188 (by rfl) (by rfl), gw_t 1189 (by rfl) (by rfl), gw_t 2 (by rfl) (by rfl), k_yX6_orderOfYard, by decide +kernel, by decide +kernel, _, _, rfl⟩
set_option maxRecDepth 100000 in
theorem mvX7_342 : MV RX7 342 6 yX6_signOfYard cX6_signOfYard 8 (some .int) (((parseMethodDescriptor "(II)I").map (fun d => d.parameters.length)).getD 0) := ⟨gw_t 1191 (by rfl) (by rfl), gw_t 1192 (by rfl) (by rfl), gw_t 1193 (by rfl) (by rfl), gw_t 2 (by rfl) (by rfl), k_yX6_signOfYard, by decide +kernel, by decide +kernel, _, _, rfl⟩
set_option maxRecDepth 100000 in
theorem mlL_256 : Cond.methodLink RL 256 ⟨"YardTalkLaw", "meets", "(LYardTalk;II[J)I"⟩ ∈ gw := gw_t 1195 (by rfl) (by rfl)
set_option maxRecDepth 100000 in
theorem mvL_103 : MV RL 103 7 yX7_meets cX7_meets 5 (some .int) (((parseMethodDescriptor "(II)I").map (fun d => d.parameters.length)).getD 0) := ⟨gw_t 1198 (by rfl) (by rfl), gw_t 1199 (by rfl) (by rfl), gw_t 1200 (by rfl) (by rfl), gw_t 1 (by rfl) (by rfl), k_yX7_meets, by decide +kernel, by decide +kernel, _, _, rfl⟩
set_option maxRecDepth 100000 in
theorem mvX7_327 : MV RX7 327 6 yX6_takeBackSaying cX6_takeBackSaying 2 none (((parseMethodDescriptor "(LYardTalk$World;)V").map (fun d => d.parameters.length)).getD 0) := ⟨gw_t 1203 (by rfl) (by rfl), gw_t 1204 (by rfl) (by rfl), gw_t 1205 (by rfl) (by rfl), gw_t 2 (by rfl) (by rfl), k_yX6_takeBackSaying, by decide +kernel, by decide +kernel, _, _, rfl⟩
set_option maxRecDepth 100000 in
theorem mvX7_330 : MV RX7 330 5 yX5_sayIn cX5_sayIn 3 none (((parseMethodDescriptor "(LYardTalk$World;)V").map (fun d => d.parameters.length)).getD 0) := ⟨gw_t 1207 (by rfl) (by rfl), gw_t 434 (by rfl) (by rfl), gw_t 435 (by rfl) (by rfl), gw_t 4 (by rfl) (by rfl), k_yX5_sayIn, by decide +kernel, by decide +kernel, _, _, rfl⟩
set_option maxRecDepth 100000 in
theorem mvX7_333 : MV RX7 333 5 yX5_takeIn cX5_takeIn 4 none (((parseMethodDescriptor "(LYardTalk$World;)V").map (fun d => d.parameters.length)).getD 0) := ⟨gw_t 1208 (by rfl) (by rfl), gw_t 480 (by rfl) (by rfl), gw_t 481 (by rfl) (by rfl), gw_t 4 (by rfl) (by rfl), k_yX5_takeIn, by decide +kernel, by decide +kernel, _, _, rfl⟩
set_option maxRecDepth 100000 in
theorem mlL_267 : Cond.methodLink RL 267 ⟨"YardTalkLaw", "plain", "(LYardTalk;I[J)I"⟩ ∈ gw := gw_t 1209 (by rfl) (by rfl)
set_option maxRecDepth 100000 in
theorem mvL_106 : MV RL 106 7 yX7_plain cX7_plain 4 (some .int) (((parseMethodDescriptor "(I)I").map (fun d => d.parameters.length)).getD 0) := ⟨gw_t 1212 (by rfl) (by rfl), gw_t 1213 (by rfl) (by rfl), gw_t 1214 (by rfl) (by rfl), gw_t 1 (by rfl) (by rfl), k_yX7_plain, by decide +kernel, by decide +kernel, _, _, rfl⟩
set_option maxRecDepth 100000 in
theorem mvX7_336 : MV RX7 336 6 yX6_heaviestOrder cX6_heaviestOrder 6 (some .int) (((parseMethodDescriptor "(I)I").map (fun d => d.parameters.length)).getD 0) := ⟨gw_t 1216 (by rfl) (by rfl), gw_t 442 (by rfl) (by rfl), gw_t 443 (by rfl) (by rfl), gw_t 2 (by rfl) (by rfl), k_yX6_heaviestOrder, by decide +kernel, by decide +kernel, _, _, rfl⟩
set_option maxRecDepth 100000 in
theorem mvX7_339 : MV RX7 339 7 yX7_countSeenAlone cX7_countSeenAlone 7 (some .int) (((parseMethodDescriptor "(II)I").map (fun d => d.parameters.length)).getD 0) := ⟨gw_t 1217 (by rfl) (by rfl), gw_t 1219 (by rfl) (by rfl), gw_p 41 (by rfl) (by rfl), gw_t 1 (by rfl) (by rfl), k_yX7_countSeenAlone, by decide +kernel, by decide +kernel, _, _, rfl⟩
set_option maxRecDepth 100000 in
theorem mvX7_430 : MV RX7 430 6 yX6_seenFor cX6_seenFor 4 (some .int) (((parseMethodDescriptor "(II)I").map (fun d => d.parameters.length)).getD 0) := ⟨gw_t 1221 (by rfl) (by rfl), gw_t 1222 (by rfl) (by rfl), gw_t 1223 (by rfl) (by rfl), gw_t 2 (by rfl) (by rfl), k_yX6_seenFor, by decide +kernel, by decide +kernel, _, _, rfl⟩
set_option maxRecDepth 100000 in
theorem mvX6_106 : MV RX6 106 6 yX6_seenAs cX6_seenAs 3 (some .int) (((parseMethodDescriptor "(II)I").map (fun d => d.parameters.length)).getD 0) := ⟨gw_t 1225 (by rfl) (by rfl), gw_t 518 (by rfl) (by rfl), gw_t 519 (by rfl) (by rfl), gw_t 2 (by rfl) (by rfl), k_yX6_seenAs, by decide +kernel, by decide +kernel, _, _, rfl⟩
set_option maxRecDepth 100000 in
theorem mlL_270 : Cond.methodLink RL 270 ⟨"YardTalkLaw", "word", "(LYardTalk;II[J)I"⟩ ∈ gw := gw_t 1226 (by rfl) (by rfl)
set_option maxRecDepth 100000 in
theorem mvL_109 : MV RL 109 7 yX7_word cX7_word 3 (some .int) (((parseMethodDescriptor "(II)I").map (fun d => d.parameters.length)).getD 0) := ⟨gw_t 1229 (by rfl) (by rfl), gw_t 1230 (by rfl) (by rfl), gw_t 1231 (by rfl) (by rfl), gw_t 1 (by rfl) (by rfl), k_yX7_word, by decide +kernel, by decide +kernel, _, _, rfl⟩
set_option maxRecDepth 100000 in
theorem mlL_273 : Cond.methodLink RL 273 ⟨"YardTalkLaw", "blurred", "(LYardTalk;II[J)I"⟩ ∈ gw := gw_t 1233 (by rfl) (by rfl)
set_option maxRecDepth 100000 in
theorem mvL_112 : MV RL 112 7 yX7_blurred cX7_blurred 7 (some .int) (((parseMethodDescriptor "(II)I").map (fun d => d.parameters.length)).getD 0) := ⟨gw_t 1236 (by rfl) (by rfl), gw_t 1237 (by rfl) (by rfl), gw_t 1238 (by rfl) (by rfl), gw_t 1 (by rfl) (by rfl), k_yX7_blurred, by decide +kernel, by decide +kernel, _, _, rfl⟩
set_option maxRecDepth 100000 in
theorem mvX7_345 : MV RX7 345 7 yX7_areBlurred cX7_areBlurred 6 (some .boolean) (((parseMethodDescriptor "(III)Z").map (fun d => d.parameters.length)).getD 0) := ⟨gw_t 1240 (by rfl) (by rfl), gw_t 1242 (by rfl) (by rfl), gw_p 42 (by rfl) (by rfl), gw_t 1 (by rfl) (by rfl), k_yX7_areBlurred, by decide +kernel, by decide +kernel, _, _, rfl⟩
set_option maxRecDepth 100000 in
theorem mlL_276 : Cond.methodLink RL 276 ⟨"YardTalkLaw", "nearest", "(LYardTalk;I[J)I"⟩ ∈ gw := gw_t 1244 (by rfl) (by rfl)
set_option maxRecDepth 100000 in
theorem mvL_115 : MV RL 115 7 yX7_nearest cX7_nearest 6 (some .int) (((parseMethodDescriptor "(I)I").map (fun d => d.parameters.length)).getD 0) := ⟨gw_t 1247 (by rfl) (by rfl), gw_t 1248 (by rfl) (by rfl), gw_t 1249 (by rfl) (by rfl), gw_t 1 (by rfl) (by rfl), k_yX7_nearest, by decide +kernel, by decide +kernel, _, _, rfl⟩
set_option maxRecDepth 100000 in
theorem mlL_279 : Cond.methodLink RL 279 ⟨"YardTalkLaw", "since", "(LYardTalk;II[J)I"⟩ ∈ gw := gw_t 1251 (by rfl) (by rfl)
set_option maxRecDepth 100000 in
theorem mvL_118 : MV RL 118 7 yX7_since cX7_since 3 (some .int) (((parseMethodDescriptor "(II)I").map (fun d => d.parameters.length)).getD 0) := ⟨gw_t 1254 (by rfl) (by rfl), gw_t 1255 (by rfl) (by rfl), gw_t 1256 (by rfl) (by rfl), gw_t 1 (by rfl) (by rfl), k_yX7_since, by decide +kernel, by decide +kernel, _, _, rfl⟩
set_option maxRecDepth 100000 in
theorem mlL_282 : Cond.methodLink RL 282 ⟨"YardTalkLaw", "taught", "(LYardTalk;II[J)I"⟩ ∈ gw := gw_t 1258 (by rfl) (by rfl)
set_option maxRecDepth 100000 in
theorem mvL_121 : MV RL 121 7 yX7_taught cX7_taught 3 (some .int) (((parseMethodDescriptor "(II)I").map (fun d => d.parameters.length)).getD 0) := ⟨gw_t 1261 (by rfl) (by rfl), gw_t 1262 (by rfl) (by rfl), gw_t 1263 (by rfl) (by rfl), gw_t 1 (by rfl) (by rfl), k_yX7_taught, by decide +kernel, by decide +kernel, _, _, rfl⟩
set_option maxRecDepth 100000 in
theorem mvX7_351 : MV RX7 351 7 yX7_findTeacher cX7_findTeacher 6 (some .int) (((parseMethodDescriptor "(II)I").map (fun d => d.parameters.length)).getD 0) := ⟨gw_t 1265 (by rfl) (by rfl), gw_t 1267 (by rfl) (by rfl), gw_p 43 (by rfl) (by rfl), gw_t 1 (by rfl) (by rfl), k_yX7_findTeacher, by decide +kernel, by decide +kernel, _, _, rfl⟩
set_option maxRecDepth 100000 in
theorem mlL_285 : Cond.methodLink RL 285 ⟨"YardTalkLaw", "root", "(LYardTalk;II[J)I"⟩ ∈ gw := gw_t 1269 (by rfl) (by rfl)
set_option maxRecDepth 100000 in
theorem mvL_124 : MV RL 124 7 yX7_root cX7_root 7 (some .int) (((parseMethodDescriptor "(II)I").map (fun d => d.parameters.length)).getD 0) := ⟨gw_t 1272 (by rfl) (by rfl), gw_t 1273 (by rfl) (by rfl), gw_t 1274 (by rfl) (by rfl), gw_t 1 (by rfl) (by rfl), k_yX7_root, by decide +kernel, by decide +kernel, _, _, rfl⟩
set_option maxRecDepth 100000 in
theorem mlL_288 : Cond.methodLink RL 288 ⟨"YardTalkLaw", "untaught", "(LYardTalk;III[J)I"⟩ ∈ gw := gw_t 1276 (by rfl) (by rfl)
set_option maxRecDepth 100000 in
theorem mvL_127 : MV RL 127 7 yX7_untaught cX7_untaught 4 (some .int) (((parseMethodDescriptor "(III)I").map (fun d => d.parameters.length)).getD 0) := ⟨gw_t 1279 (by rfl) (by rfl), gw_t 1280 (by rfl) (by rfl), gw_t 1281 (by rfl) (by rfl), gw_t 1 (by rfl) (by rfl), k_yX7_untaught, by decide +kernel, by decide +kernel, _, _, rfl⟩
set_option maxRecDepth 100000 in
theorem mvX7_354 : MV RX7 354 6 yX6_sendTeachersAway cX6_sendTeachersAway 3 none (((parseMethodDescriptor "(I)V").map (fun d => d.parameters.length)).getD 0) := ⟨gw_t 1283 (by rfl) (by rfl), gw_t 1284 (by rfl) (by rfl), gw_t 1285 (by rfl) (by rfl), gw_t 2 (by rfl) (by rfl), k_yX6_sendTeachersAway, by decide +kernel, by decide +kernel, _, _, rfl⟩
set_option maxRecDepth 100000 in
theorem mlL_291 : Cond.methodLink RL 291 ⟨"YardTalkLaw", "odds", "(LYardTalk;IIII[J)I"⟩ ∈ gw := gw_t 1287 (by rfl) (by rfl)
set_option maxRecDepth 100000 in
theorem mvL_130 : MV RL 130 7 yX7_odds cX7_odds 8 (some .int) (((parseMethodDescriptor "(IIII)I").map (fun d => d.parameters.length)).getD 0) := ⟨gw_t 1290 (by rfl) (by rfl), gw_t 1291 (by rfl) (by rfl), gw_t 1292 (by rfl) (by rfl), gw_t 1 (by rfl) (by rfl), k_yX7_odds, by decide +kernel, by decide +kernel, _, _, rfl⟩
set_option maxRecDepth 100000 in
theorem mlL_294 : Cond.methodLink RL 294 ⟨"YardTalkLaw", "right", "(LYardTalk;III[J)I"⟩ ∈ gw := gw_t 1295 (by rfl) (by rfl)
set_option maxRecDepth 100000 in
theorem mvL_133 : MV RL 133 7 yX7_right cX7_right 7 (some .int) (((parseMethodDescriptor "(III)I").map (fun d => d.parameters.length)).getD 0) := ⟨gw_t 1298 (by rfl) (by rfl), gw_t 1299 (by rfl) (by rfl), gw_t 1300 (by rfl) (by rfl), gw_t 1 (by rfl) (by rfl), k_yX7_right, by decide +kernel, by decide +kernel, _, _, rfl⟩
set_option maxRecDepth 100000 in
theorem mvL_151 : MV RL 151 8 yX8_thrown cX8_thrown 1 (some .int) (((parseMethodDescriptor "()I").map (fun d => d.parameters.length)).getD 0) := ⟨gw_t 1303 (by rfl) (by rfl), gw_t 1304 (by rfl) (by rfl), gw_t 1305 (by rfl) (by rfl), gw_t 9 (by rfl) (by rfl), k_yX8_thrown, by decide +kernel, by decide +kernel, _, _, rfl⟩
set_option maxRecDepth 100000 in
theorem mlL_139 : Cond.methodLink RL 139 yX8_init ∈ gw := gw_t 1309 (by rfl) (by rfl)
set_option maxRecDepth 100000 in
theorem mlX8_7 : Cond.methodLink RX8 7 ⟨"java/lang/Object", "<init>", "()V"⟩ ∈ gw := gw_t 1312 (by rfl) (by rfl)
set_option maxRecDepth 100000 in
theorem mvL_144 : MV RL 144 8 yX8_seeds cX8_seeds 3 none (((parseMethodDescriptor "(II)V").map (fun d => d.parameters.length)).getD 0) := ⟨gw_t 1482 (by rfl) (by rfl), gw_t 1483 (by rfl) (by rfl), gw_t 1484 (by rfl) (by rfl), gw_t 9 (by rfl) (by rfl), k_yX8_seeds, by decide +kernel, by decide +kernel, _, _, rfl⟩
set_option maxRecDepth 100000 in
theorem mvX8_114 : MV RX8 114 8 yX8_ends cX8_ends 1 none (((parseMethodDescriptor "()V").map (fun d => d.parameters.length)).getD 0) := ⟨gw_t 1486 (by rfl) (by rfl), gw_t 1488 (by rfl) (by rfl), gw_p 44 (by rfl) (by rfl), gw_t 9 (by rfl) (by rfl), k_yX8_ends, by decide +kernel, by decide +kernel, _, _, rfl⟩
set_option maxRecDepth 100000 in
theorem mvL_150 : MV RL 150 8 yX8_come cX8_come 7 (some .int) (((parseMethodDescriptor "(IIZ)I").map (fun d => d.parameters.length)).getD 0) := ⟨gw_t 1490 (by rfl) (by rfl), gw_t 1491 (by rfl) (by rfl), gw_t 1492 (by rfl) (by rfl), gw_t 9 (by rfl) (by rfl), k_yX8_come, by decide +kernel, by decide +kernel, _, _, rfl⟩
set_option maxRecDepth 100000 in
theorem msX8_117 : MS RX8 117 yX8_isYard cX8_isYard 1 (some .boolean) (((parseMethodDescriptor "(I)Z").map (fun d => d.parameters.length)).getD 0) := ⟨gw_t 1494 (by rfl) (by rfl), gw_t 1495 (by rfl) (by rfl), gw_t 9 (by rfl) (by rfl), k_yX8_isYard, by decide +kernel, by decide +kernel⟩
set_option maxRecDepth 100000 in
theorem msX8_106 : MS RX8 106 yX8_within cX8_within 3 (some .boolean) (((parseMethodDescriptor "(III)Z").map (fun d => d.parameters.length)).getD 0) := ⟨gw_t 1497 (by rfl) (by rfl), gw_t 1498 (by rfl) (by rfl), gw_t 9 (by rfl) (by rfl), k_yX8_within, by decide +kernel, by decide +kernel⟩
set_option maxRecDepth 100000 in
theorem mvX8_110 : MV RX8 110 8 yX8_may cX8_may 3 (some .boolean) (((parseMethodDescriptor "(ZI)Z").map (fun d => d.parameters.length)).getD 0) := ⟨gw_t 1500 (by rfl) (by rfl), gw_t 1502 (by rfl) (by rfl), gw_p 45 (by rfl) (by rfl), gw_t 9 (by rfl) (by rfl), k_yX8_may, by decide +kernel, by decide +kernel, _, _, rfl⟩
set_option maxRecDepth 100000 in
theorem msX8_121 : MS RX8 121 yX8_at cX8_at 1 (some .int) (((parseMethodDescriptor "(I)I").map (fun d => d.parameters.length)).getD 0) := ⟨gw_t 1504 (by rfl) (by rfl), gw_t 1505 (by rfl) (by rfl), gw_t 9 (by rfl) (by rfl), k_yX8_at, by decide +kernel, by decide +kernel⟩
set_option maxRecDepth 100000 in
theorem mvL_158 : MV RL 158 8 yX8_leave cX8_leave 2 (some .int) (((parseMethodDescriptor "(I)I").map (fun d => d.parameters.length)).getD 0) := ⟨gw_t 1507 (by rfl) (by rfl), gw_t 1508 (by rfl) (by rfl), gw_t 1509 (by rfl) (by rfl), gw_t 9 (by rfl) (by rfl), k_yX8_leave, by decide +kernel, by decide +kernel, _, _, rfl⟩
set_option maxRecDepth 100000 in
theorem mvX8_125 : MV RX8 125 8 yX8_isChild cX8_isChild 2 (some .boolean) (((parseMethodDescriptor "(I)Z").map (fun d => d.parameters.length)).getD 0) := ⟨gw_t 1511 (by rfl) (by rfl), gw_t 1513 (by rfl) (by rfl), gw_p 46 (by rfl) (by rfl), gw_t 9 (by rfl) (by rfl), k_yX8_isChild, by decide +kernel, by decide +kernel, _, _, rfl⟩
set_option maxRecDepth 100000 in
theorem mvL_162 : MV RL 162 8 yX8_visit cX8_visit 4 (some .int) (((parseMethodDescriptor "(II)I").map (fun d => d.parameters.length)).getD 0) := ⟨gw_t 1515 (by rfl) (by rfl), gw_t 1516 (by rfl) (by rfl), gw_t 1517 (by rfl) (by rfl), gw_t 9 (by rfl) (by rfl), k_yX8_visit, by decide +kernel, by decide +kernel, _, _, rfl⟩
set_option maxRecDepth 100000 in
theorem mvL_165 : MV RL 165 8 yX8_of cX8_of 6 (some .int) (((parseMethodDescriptor "(II)I").map (fun d => d.parameters.length)).getD 0) := ⟨gw_t 1519 (by rfl) (by rfl), gw_t 1520 (by rfl) (by rfl), gw_t 1521 (by rfl) (by rfl), gw_t 9 (by rfl) (by rfl), k_yX8_of, by decide +kernel, by decide +kernel, _, _, rfl⟩
set_option maxRecDepth 100000 in
theorem mvX8_128 : MV RX8 128 8 yX8_holdsNow cX8_holdsNow 4 (some .boolean) (((parseMethodDescriptor "(II)Z").map (fun d => d.parameters.length)).getD 0) := ⟨gw_t 1523 (by rfl) (by rfl), gw_t 1525 (by rfl) (by rfl), gw_p 47 (by rfl) (by rfl), gw_t 9 (by rfl) (by rfl), k_yX8_holdsNow, by decide +kernel, by decide +kernel, _, _, rfl⟩
set_option maxRecDepth 100000 in
theorem mvX8_272 : MV RX8 272 8 yX8_asks cX8_asks 5 none (((parseMethodDescriptor "(III)V").map (fun d => d.parameters.length)).getD 0) := ⟨gw_t 1527 (by rfl) (by rfl), gw_t 1529 (by rfl) (by rfl), gw_p 48 (by rfl) (by rfl), gw_t 9 (by rfl) (by rfl), k_yX8_asks, by decide +kernel, by decide +kernel, _, _, rfl⟩
set_option maxRecDepth 100000 in
theorem mvX8_276 : MV RX8 276 8 yX8_told cX8_told 6 (some .int) (((parseMethodDescriptor "(II)I").map (fun d => d.parameters.length)).getD 0) := ⟨gw_t 1531 (by rfl) (by rfl), gw_t 1533 (by rfl) (by rfl), gw_p 49 (by rfl) (by rfl), gw_t 9 (by rfl) (by rfl), k_yX8_told, by decide +kernel, by decide +kernel, _, _, rfl⟩
set_option maxRecDepth 100000 in
theorem mvX8_265 : MV RX8 265 8 yX8_valueOf cX8_valueOf 6 (some .int) (((parseMethodDescriptor "(II)I").map (fun d => d.parameters.length)).getD 0) := ⟨gw_t 1535 (by rfl) (by rfl), gw_t 1537 (by rfl) (by rfl), gw_p 50 (by rfl) (by rfl), gw_t 9 (by rfl) (by rfl), k_yX8_valueOf, by decide +kernel, by decide +kernel, _, _, rfl⟩
set_option maxRecDepth 100000 in
theorem mvX8_258 : MV RX8 258 8 yX8_asked cX8_asked 2 (some .int) (((parseMethodDescriptor "(I)I").map (fun d => d.parameters.length)).getD 0) := ⟨gw_t 1539 (by rfl) (by rfl), gw_t 1541 (by rfl) (by rfl), gw_p 51 (by rfl) (by rfl), gw_t 9 (by rfl) (by rfl), k_yX8_asked, by decide +kernel, by decide +kernel, _, _, rfl⟩
set_option maxRecDepth 100000 in
theorem msX8_261 : MS RX8 261 yX8_two cX8_two 3 (some .int) (((parseMethodDescriptor "(III)I").map (fun d => d.parameters.length)).getD 0) := ⟨gw_t 1543 (by rfl) (by rfl), gw_t 1544 (by rfl) (by rfl), gw_t 9 (by rfl) (by rfl), k_yX8_two, by decide +kernel, by decide +kernel⟩
set_option maxRecDepth 100000 in
theorem msX8_269 : MS RX8 269 yX8_bounded cX8_bounded 1 (some .int) (((parseMethodDescriptor "(I)I").map (fun d => d.parameters.length)).getD 0) := ⟨gw_t 1546 (by rfl) (by rfl), gw_t 1547 (by rfl) (by rfl), gw_t 9 (by rfl) (by rfl), k_yX8_bounded, by decide +kernel, by decide +kernel⟩
set_option maxRecDepth 100000 in
theorem mvL_169 : MV RL 169 8 yX8_sign cX8_sign 4 (some .int) (((parseMethodDescriptor "(III)I").map (fun d => d.parameters.length)).getD 0) := ⟨gw_t 1549 (by rfl) (by rfl), gw_t 1550 (by rfl) (by rfl), gw_t 1551 (by rfl) (by rfl), gw_t 9 (by rfl) (by rfl), k_yX8_sign, by decide +kernel, by decide +kernel, _, _, rfl⟩
set_option maxRecDepth 100000 in
theorem mvL_172 : MV RL 172 8 yX8_order cX8_order 3 (some .int) (((parseMethodDescriptor "(II)I").map (fun d => d.parameters.length)).getD 0) := ⟨gw_t 1553 (by rfl) (by rfl), gw_t 1554 (by rfl) (by rfl), gw_t 1555 (by rfl) (by rfl), gw_t 9 (by rfl) (by rfl), k_yX8_order, by decide +kernel, by decide +kernel, _, _, rfl⟩
set_option maxRecDepth 100000 in
theorem msX8_132 : MS RX8 132 yX8_isOrder cX8_isOrder 1 (some .boolean) (((parseMethodDescriptor "(I)Z").map (fun d => d.parameters.length)).getD 0) := ⟨gw_t 1557 (by rfl) (by rfl), gw_t 1558 (by rfl) (by rfl), gw_t 9 (by rfl) (by rfl), k_yX8_isOrder, by decide +kernel, by decide +kernel⟩
set_option maxRecDepth 100000 in
theorem mvL_175 : MV RL 175 8 yX8_holds cX8_holds 3 (some .boolean) (((parseMethodDescriptor "(II)Z").map (fun d => d.parameters.length)).getD 0) := ⟨gw_t 1560 (by rfl) (by rfl), gw_t 1561 (by rfl) (by rfl), gw_t 1562 (by rfl) (by rfl), gw_t 9 (by rfl) (by rfl), k_yX8_holds, by decide +kernel, by decide +kernel, _, _, rfl⟩
set_option maxRecDepth 100000 in
theorem mvL_178 : MV RL 178 8 yX8_set cX8_set 4 (some .int) (((parseMethodDescriptor "(II)I").map (fun d => d.parameters.length)).getD 0) := ⟨gw_t 1564 (by rfl) (by rfl), gw_t 1565 (by rfl) (by rfl), gw_t 1566 (by rfl) (by rfl), gw_t 9 (by rfl) (by rfl), k_yX8_set, by decide +kernel, by decide +kernel, _, _, rfl⟩
set_option maxRecDepth 100000 in
theorem mvL_181 : MV RL 181 8 yX8_years cX8_years 2 (some .int) (((parseMethodDescriptor "(I)I").map (fun d => d.parameters.length)).getD 0) := ⟨gw_t 1568 (by rfl) (by rfl), gw_t 1569 (by rfl) (by rfl), gw_t 1570 (by rfl) (by rfl), gw_t 9 (by rfl) (by rfl), k_yX8_years, by decide +kernel, by decide +kernel, _, _, rfl⟩
set_option maxRecDepth 100000 in
theorem mvL_185 : MV RL 185 8 yX8_feed cX8_feed 8 (some .int) (((parseMethodDescriptor "(IIIII)I").map (fun d => d.parameters.length)).getD 0) := ⟨gw_t 1572 (by rfl) (by rfl), gw_t 1573 (by rfl) (by rfl), gw_t 1574 (by rfl) (by rfl), gw_t 9 (by rfl) (by rfl), k_yX8_feed, by decide +kernel, by decide +kernel, _, _, rfl⟩
set_option maxRecDepth 100000 in
theorem mvL_188 : MV RL 188 8 yX8_law cX8_law 2 (some .int) (((parseMethodDescriptor "(I)I").map (fun d => d.parameters.length)).getD 0) := ⟨gw_t 1576 (by rfl) (by rfl), gw_t 1577 (by rfl) (by rfl), gw_t 1578 (by rfl) (by rfl), gw_t 9 (by rfl) (by rfl), k_yX8_law, by decide +kernel, by decide +kernel, _, _, rfl⟩
set_option maxRecDepth 100000 in
theorem mvX8_164 : MV RX8 164 8 yX8_fine cX8_fine 1 (some .boolean) (((parseMethodDescriptor "()Z").map (fun d => d.parameters.length)).getD 0) := ⟨gw_t 1580 (by rfl) (by rfl), gw_t 1582 (by rfl) (by rfl), gw_p 52 (by rfl) (by rfl), gw_t 9 (by rfl) (by rfl), k_yX8_fine, by decide +kernel, by decide +kernel, _, _, rfl⟩
set_option maxRecDepth 100000 in
theorem mvX8_231 : MV RX8 231 8 yX8_isMore cX8_isMore 1 (some .boolean) (((parseMethodDescriptor "()Z").map (fun d => d.parameters.length)).getD 0) := ⟨gw_t 1584 (by rfl) (by rfl), gw_t 1586 (by rfl) (by rfl), gw_p 53 (by rfl) (by rfl), gw_t 9 (by rfl) (by rfl), k_yX8_isMore, by decide +kernel, by decide +kernel, _, _, rfl⟩
set_option maxRecDepth 100000 in
theorem mvX8_150 : MV RX8 150 8 yX8_here cX8_here 1 (some .int) (((parseMethodDescriptor "()I").map (fun d => d.parameters.length)).getD 0) := ⟨gw_t 1588 (by rfl) (by rfl), gw_t 1590 (by rfl) (by rfl), gw_p 54 (by rfl) (by rfl), gw_t 9 (by rfl) (by rfl), k_yX8_here, by decide +kernel, by decide +kernel, _, _, rfl⟩
set_option maxRecDepth 100000 in
theorem mvX8_234 : MV RX8 234 8 yX8_readClause cX8_readClause 4 none (((parseMethodDescriptor "()V").map (fun d => d.parameters.length)).getD 0) := ⟨gw_t 1592 (by rfl) (by rfl), gw_t 1594 (by rfl) (by rfl), gw_p 55 (by rfl) (by rfl), gw_t 9 (by rfl) (by rfl), k_yX8_readClause, by decide +kernel, by decide +kernel, _, _, rfl⟩
set_option maxRecDepth 100000 in
theorem mvX8_201 : MV RX8 201 8 yX8_word cX8_word 4 (some .int) (((parseMethodDescriptor "()I").map (fun d => d.parameters.length)).getD 0) := ⟨gw_t 1596 (by rfl) (by rfl), gw_t 1598 (by rfl) (by rfl), gw_p 56 (by rfl) (by rfl), gw_t 9 (by rfl) (by rfl), k_yX8_word, by decide +kernel, by decide +kernel, _, _, rfl⟩
set_option maxRecDepth 100000 in
theorem msX8_154 : MS RX8 154 yX8_isSmall cX8_isSmall 1 (some .boolean) (((parseMethodDescriptor "(I)Z").map (fun d => d.parameters.length)).getD 0) := ⟨gw_t 1600 (by rfl) (by rfl), gw_t 1601 (by rfl) (by rfl), gw_t 9 (by rfl) (by rfl), k_yX8_isSmall, by decide +kernel, by decide +kernel⟩
set_option maxRecDepth 100000 in
theorem mvX8_160 : MV RX8 160 8 yX8_wrong cX8_wrong 3 none (((parseMethodDescriptor "(II)V").map (fun d => d.parameters.length)).getD 0) := ⟨gw_t 1607 (by rfl) (by rfl), gw_t 1609 (by rfl) (by rfl), gw_p 57 (by rfl) (by rfl), gw_t 9 (by rfl) (by rfl), k_yX8_wrong, by decide +kernel, by decide +kernel, _, _, rfl⟩
set_option maxRecDepth 100000 in
theorem mvX8_206 : MV RX8 206 8 yX8_pass cX8_pass 1 none (((parseMethodDescriptor "()V").map (fun d => d.parameters.length)).getD 0) := ⟨gw_t 1611 (by rfl) (by rfl), gw_t 1613 (by rfl) (by rfl), gw_p 58 (by rfl) (by rfl), gw_t 9 (by rfl) (by rfl), k_yX8_pass, by decide +kernel, by decide +kernel, _, _, rfl⟩
set_option maxRecDepth 100000 in
theorem mvX8_195 : MV RX8 195 8 yX8_sum cX8_sum 2 none (((parseMethodDescriptor "()V").map (fun d => d.parameters.length)).getD 0) := ⟨gw_t 1615 (by rfl) (by rfl), gw_t 1617 (by rfl) (by rfl), gw_p 59 (by rfl) (by rfl), gw_t 9 (by rfl) (by rfl), k_yX8_sum, by decide +kernel, by decide +kernel, _, _, rfl⟩
set_option maxRecDepth 100000 in
theorem mvX8_215 : MV RX8 215 8 yX8_product cX8_product 2 none (((parseMethodDescriptor "()V").map (fun d => d.parameters.length)).getD 0) := ⟨gw_t 1619 (by rfl) (by rfl), gw_t 1621 (by rfl) (by rfl), gw_p 60 (by rfl) (by rfl), gw_t 9 (by rfl) (by rfl), k_yX8_product, by decide +kernel, by decide +kernel, _, _, rfl⟩
set_option maxRecDepth 100000 in
theorem mvX8_212 : MV RX8 212 8 yX8_unit cX8_unit 3 none (((parseMethodDescriptor "()V").map (fun d => d.parameters.length)).getD 0) := ⟨gw_t 1623 (by rfl) (by rfl), gw_t 1625 (by rfl) (by rfl), gw_p 61 (by rfl) (by rfl), gw_t 9 (by rfl) (by rfl), k_yX8_unit, by decide +kernel, by decide +kernel, _, _, rfl⟩
set_option maxRecDepth 100000 in
theorem msX8_157 : MS RX8 157 yX8_isDigit cX8_isDigit 1 (some .boolean) (((parseMethodDescriptor "(I)Z").map (fun d => d.parameters.length)).getD 0) := ⟨gw_t 1627 (by rfl) (by rfl), gw_t 1628 (by rfl) (by rfl), gw_t 9 (by rfl) (by rfl), k_yX8_isDigit, by decide +kernel, by decide +kernel⟩
set_option maxRecDepth 100000 in
theorem mvX8_186 : MV RX8 186 8 yX8_readNumber cX8_readNumber 3 (some .int) (((parseMethodDescriptor "()I").map (fun d => d.parameters.length)).getD 0) := ⟨gw_t 1630 (by rfl) (by rfl), gw_t 1632 (by rfl) (by rfl), gw_p 62 (by rfl) (by rfl), gw_t 9 (by rfl) (by rfl), k_yX8_readNumber, by decide +kernel, by decide +kernel, _, _, rfl⟩
set_option maxRecDepth 100000 in
theorem mvX8_189 : MV RX8 189 8 yX8_emit cX8_emit 3 none (((parseMethodDescriptor "(II)V").map (fun d => d.parameters.length)).getD 0) := ⟨gw_t 1634 (by rfl) (by rfl), gw_t 1636 (by rfl) (by rfl), gw_p 63 (by rfl) (by rfl), gw_t 9 (by rfl) (by rfl), k_yX8_emit, by decide +kernel, by decide +kernel, _, _, rfl⟩
set_option maxRecDepth 100000 in
theorem mvX8_192 : MV RX8 192 8 yX8_opensAt cX8_opensAt 3 none (((parseMethodDescriptor "(II)V").map (fun d => d.parameters.length)).getD 0) := ⟨gw_t 1638 (by rfl) (by rfl), gw_t 1640 (by rfl) (by rfl), gw_p 64 (by rfl) (by rfl), gw_t 9 (by rfl) (by rfl), k_yX8_opensAt, by decide +kernel, by decide +kernel, _, _, rfl⟩
set_option maxRecDepth 100000 in
theorem mvX8_198 : MV RX8 198 8 yX8_closesAt cX8_closesAt 2 none (((parseMethodDescriptor "(I)V").map (fun d => d.parameters.length)).getD 0) := ⟨gw_t 1642 (by rfl) (by rfl), gw_t 1644 (by rfl) (by rfl), gw_p 65 (by rfl) (by rfl), gw_t 9 (by rfl) (by rfl), k_yX8_closesAt, by decide +kernel, by decide +kernel, _, _, rfl⟩
set_option maxRecDepth 100000 in
theorem mvX8_177 : MV RX8 177 8 yX8_need cX8_need 2 none (((parseMethodDescriptor "(I)V").map (fun d => d.parameters.length)).getD 0) := ⟨gw_t 1646 (by rfl) (by rfl), gw_t 1648 (by rfl) (by rfl), gw_p 66 (by rfl) (by rfl), gw_t 9 (by rfl) (by rfl), k_yX8_need, by decide +kernel, by decide +kernel, _, _, rfl⟩
set_option maxRecDepth 100000 in
theorem msX8_209 : MS RX8 209 yX8_name cX8_name 1 (some .int) (((parseMethodDescriptor "(I)I").map (fun d => d.parameters.length)).getD 0) := ⟨gw_t 1652 (by rfl) (by rfl), gw_t 1653 (by rfl) (by rfl), gw_t 9 (by rfl) (by rfl), k_yX8_name, by decide +kernel, by decide +kernel⟩
set_option maxRecDepth 100000 in
theorem mvX8_224 : MV RX8 224 8 yX8_anyOf cX8_anyOf 1 none (((parseMethodDescriptor "()V").map (fun d => d.parameters.length)).getD 0) := ⟨gw_t 1660 (by rfl) (by rfl), gw_t 1662 (by rfl) (by rfl), gw_p 67 (by rfl) (by rfl), gw_t 9 (by rfl) (by rfl), k_yX8_anyOf, by decide +kernel, by decide +kernel, _, _, rfl⟩
set_option maxRecDepth 100000 in
theorem mvX8_218 : MV RX8 218 8 yX8_allOf cX8_allOf 1 none (((parseMethodDescriptor "()V").map (fun d => d.parameters.length)).getD 0) := ⟨gw_t 1664 (by rfl) (by rfl), gw_t 1666 (by rfl) (by rfl), gw_p 68 (by rfl) (by rfl), gw_t 9 (by rfl) (by rfl), k_yX8_allOf, by decide +kernel, by decide +kernel, _, _, rfl⟩
set_option maxRecDepth 100000 in
theorem mvX8_221 : MV RX8 221 8 yX8_term cX8_term 2 none (((parseMethodDescriptor "()V").map (fun d => d.parameters.length)).getD 0) := ⟨gw_t 1668 (by rfl) (by rfl), gw_t 1670 (by rfl) (by rfl), gw_p 69 (by rfl) (by rfl), gw_t 9 (by rfl) (by rfl), k_yX8_term, by decide +kernel, by decide +kernel, _, _, rfl⟩
set_option maxRecDepth 100000 in
theorem mvL_192 : MV RL 192 8 yX8_fault cX8_fault 1 (some .int) (((parseMethodDescriptor "()I").map (fun d => d.parameters.length)).getD 0) := ⟨gw_t 1672 (by rfl) (by rfl), gw_t 1673 (by rfl) (by rfl), gw_t 1674 (by rfl) (by rfl), gw_t 9 (by rfl) (by rfl), k_yX8_fault, by decide +kernel, by decide +kernel, _, _, rfl⟩
set_option maxRecDepth 100000 in
theorem mvL_195 : MV RL 195 8 yX8_force cX8_force 3 (some .int) (((parseMethodDescriptor "(I)I").map (fun d => d.parameters.length)).getD 0) := ⟨gw_t 1676 (by rfl) (by rfl), gw_t 1677 (by rfl) (by rfl), gw_t 1678 (by rfl) (by rfl), gw_t 9 (by rfl) (by rfl), k_yX8_force, by decide +kernel, by decide +kernel, _, _, rfl⟩
set_option maxRecDepth 100000 in
theorem mvX8_237 : MV RX8 237 8 yX8_isLawOrNone cX8_isLawOrNone 2 (some .boolean) (((parseMethodDescriptor "(I)Z").map (fun d => d.parameters.length)).getD 0) := ⟨gw_t 1680 (by rfl) (by rfl), gw_t 1682 (by rfl) (by rfl), gw_p 70 (by rfl) (by rfl), gw_t 9 (by rfl) (by rfl), k_yX8_isLawOrNone, by decide +kernel, by decide +kernel, _, _, rfl⟩
set_option maxRecDepth 100000 in
theorem mvL_199 : MV RL 199 8 yX8_talk cX8_talk 6 (some .int) (((parseMethodDescriptor "(IIIII)I").map (fun d => d.parameters.length)).getD 0) := ⟨gw_t 1684 (by rfl) (by rfl), gw_t 1685 (by rfl) (by rfl), gw_t 1686 (by rfl) (by rfl), gw_t 9 (by rfl) (by rfl), k_yX8_talk, by decide +kernel, by decide +kernel, _, _, rfl⟩
set_option maxRecDepth 100000 in
theorem mvX8_332 : MV RX8 332 8 yX8_tells cX8_tells 7 none (((parseMethodDescriptor "(II)V").map (fun d => d.parameters.length)).getD 0) := ⟨gw_t 1688 (by rfl) (by rfl), gw_t 1690 (by rfl) (by rfl), gw_p 71 (by rfl) (by rfl), gw_t 9 (by rfl) (by rfl), k_yX8_tells, by decide +kernel, by decide +kernel, _, _, rfl⟩
set_option maxRecDepth 100000 in
theorem mvX8_326 : MV RX8 326 8 yX8_talks cX8_talks 8 none (((parseMethodDescriptor "(II)V").map (fun d => d.parameters.length)).getD 0) := ⟨gw_t 1692 (by rfl) (by rfl), gw_t 1694 (by rfl) (by rfl), gw_p 72 (by rfl) (by rfl), gw_t 9 (by rfl) (by rfl), k_yX8_talks, by decide +kernel, by decide +kernel, _, _, rfl⟩
set_option maxRecDepth 100000 in
theorem mvX8_320 : MV RX8 320 8 yX8_saysIt cX8_saysIt 8 none (((parseMethodDescriptor "(II)V").map (fun d => d.parameters.length)).getD 0) := ⟨gw_t 1696 (by rfl) (by rfl), gw_t 1698 (by rfl) (by rfl), gw_p 73 (by rfl) (by rfl), gw_t 9 (by rfl) (by rfl), k_yX8_saysIt, by decide +kernel, by decide +kernel, _, _, rfl⟩
set_option maxRecDepth 100000 in
theorem mvX8_285 : MV RX8 285 8 yX8_orderOf cX8_orderOf 5 (some .int) (((parseMethodDescriptor "(I)I").map (fun d => d.parameters.length)).getD 0) := ⟨gw_t 1700 (by rfl) (by rfl), gw_t 1702 (by rfl) (by rfl), gw_p 74 (by rfl) (by rfl), gw_t 9 (by rfl) (by rfl), k_yX8_orderOf, by decide +kernel, by decide +kernel, _, _, rfl⟩
set_option maxRecDepth 100000 in
theorem mvX8_279 : MV RX8 279 8 yX8_draw cX8_draw 3 (some .int) (((parseMethodDescriptor "(II)I").map (fun d => d.parameters.length)).getD 0) := ⟨gw_t 1704 (by rfl) (by rfl), gw_t 1706 (by rfl) (by rfl), gw_p 75 (by rfl) (by rfl), gw_t 9 (by rfl) (by rfl), k_yX8_draw, by decide +kernel, by decide +kernel, _, _, rfl⟩
set_option maxRecDepth 100000 in
theorem msX8_294 : MS RX8 294 yX8_concept cX8_concept 2 (some .int) (((parseMethodDescriptor "(II)I").map (fun d => d.parameters.length)).getD 0) := ⟨gw_t 1711 (by rfl) (by rfl), gw_t 1712 (by rfl) (by rfl), gw_t 9 (by rfl) (by rfl), k_yX8_concept, by decide +kernel, by decide +kernel⟩
set_option maxRecDepth 100000 in
theorem mvX8_297 : MV RX8 297 8 yX8_signOf cX8_signOf 6 (some .int) (((parseMethodDescriptor "(II)I").map (fun d => d.parameters.length)).getD 0) := ⟨gw_t 1714 (by rfl) (by rfl), gw_t 1716 (by rfl) (by rfl), gw_p 76 (by rfl) (by rfl), gw_t 9 (by rfl) (by rfl), k_yX8_signOf, by decide +kernel, by decide +kernel, _, _, rfl⟩
set_option maxRecDepth 100000 in
theorem mvX8_303 : MV RX8 303 8 yX8_weightSeen cX8_weightSeen 7 (some .int) (((parseMethodDescriptor "(IIII)I").map (fun d => d.parameters.length)).getD 0) := ⟨gw_t 1718 (by rfl) (by rfl), gw_t 1720 (by rfl) (by rfl), gw_p 77 (by rfl) (by rfl), gw_t 9 (by rfl) (by rfl), k_yX8_weightSeen, by decide +kernel, by decide +kernel, _, _, rfl⟩
set_option maxRecDepth 100000 in
theorem mvX8_282 : MV RX8 282 8 yX8_isWorn cX8_isWorn 3 (some .boolean) (((parseMethodDescriptor "(II)Z").map (fun d => d.parameters.length)).getD 0) := ⟨gw_t 1722 (by rfl) (by rfl), gw_t 1724 (by rfl) (by rfl), gw_p 78 (by rfl) (by rfl), gw_t 9 (by rfl) (by rfl), k_yX8_isWorn, by decide +kernel, by decide +kernel, _, _, rfl⟩
set_option maxRecDepth 100000 in
theorem mvX8_323 : MV RX8 323 8 yX8_learns cX8_learns 10 none (((parseMethodDescriptor "(II)V").map (fun d => d.parameters.length)).getD 0) := ⟨gw_t 1726 (by rfl) (by rfl), gw_t 1728 (by rfl) (by rfl), gw_p 79 (by rfl) (by rfl), gw_t 9 (by rfl) (by rfl), k_yX8_learns, by decide +kernel, by decide +kernel, _, _, rfl⟩
set_option maxRecDepth 100000 in
theorem mvX8_314 : MV RX8 314 8 yX8_seenAs cX8_seenAs 3 (some .int) (((parseMethodDescriptor "(II)I").map (fun d => d.parameters.length)).getD 0) := ⟨gw_t 1730 (by rfl) (by rfl), gw_t 1732 (by rfl) (by rfl), gw_p 80 (by rfl) (by rfl), gw_t 9 (by rfl) (by rfl), k_yX8_seenAs, by decide +kernel, by decide +kernel, _, _, rfl⟩
set_option maxRecDepth 100000 in
theorem mvL_202 : MV RL 202 8 yX8_run cX8_run 4 (some .int) (((parseMethodDescriptor "(II)I").map (fun d => d.parameters.length)).getD 0) := ⟨gw_t 1734 (by rfl) (by rfl), gw_t 1735 (by rfl) (by rfl), gw_t 1736 (by rfl) (by rfl), gw_t 9 (by rfl) (by rfl), k_yX8_run, by decide +kernel, by decide +kernel, _, _, rfl⟩
set_option maxRecDepth 100000 in
theorem mvX8_344 : MV RX8 344 8 yX8_findHere cX8_findHere 3 none (((parseMethodDescriptor "(I)V").map (fun d => d.parameters.length)).getD 0) := ⟨gw_t 1738 (by rfl) (by rfl), gw_t 1740 (by rfl) (by rfl), gw_p 81 (by rfl) (by rfl), gw_t 9 (by rfl) (by rfl), k_yX8_findHere, by decide +kernel, by decide +kernel, _, _, rfl⟩
set_option maxRecDepth 100000 in
theorem mvX8_347 : MV RX8 347 8 yX8_draws cX8_draws 4 none (((parseMethodDescriptor "()V").map (fun d => d.parameters.length)).getD 0) := ⟨gw_t 1742 (by rfl) (by rfl), gw_t 1744 (by rfl) (by rfl), gw_p 82 (by rfl) (by rfl), gw_t 9 (by rfl) (by rfl), k_yX8_draws, by decide +kernel, by decide +kernel, _, _, rfl⟩
set_option maxRecDepth 100000 in
theorem mvL_205 : MV RL 205 8 yX8_note cX8_note 3 (some .int) (((parseMethodDescriptor "(II)I").map (fun d => d.parameters.length)).getD 0) := ⟨gw_t 1746 (by rfl) (by rfl), gw_t 1747 (by rfl) (by rfl), gw_t 1748 (by rfl) (by rfl), gw_t 9 (by rfl) (by rfl), k_yX8_note, by decide +kernel, by decide +kernel, _, _, rfl⟩
set_option maxRecDepth 100000 in
theorem mvL_209 : MV RL 209 8 yX8_share cX8_share 9 (some .int) (((parseMethodDescriptor "(IIIZ)I").map (fun d => d.parameters.length)).getD 0) := ⟨gw_t 1750 (by rfl) (by rfl), gw_t 1751 (by rfl) (by rfl), gw_t 1752 (by rfl) (by rfl), gw_t 9 (by rfl) (by rfl), k_yX8_share, by decide +kernel, by decide +kernel, _, _, rfl⟩
set_option maxRecDepth 100000 in
theorem msX8_350 : MS RX8 350 yX8_isKind cX8_isKind 1 (some .boolean) (((parseMethodDescriptor "(I)Z").map (fun d => d.parameters.length)).getD 0) := ⟨gw_t 1754 (by rfl) (by rfl), gw_t 1755 (by rfl) (by rfl), gw_t 9 (by rfl) (by rfl), k_yX8_isKind, by decide +kernel, by decide +kernel⟩
set_option maxRecDepth 100000 in
theorem mvL_212 : MV RL 212 8 yX8_held cX8_held 3 (some .int) (((parseMethodDescriptor "(II)I").map (fun d => d.parameters.length)).getD 0) := ⟨gw_t 1757 (by rfl) (by rfl), gw_t 1758 (by rfl) (by rfl), gw_t 1759 (by rfl) (by rfl), gw_t 9 (by rfl) (by rfl), k_yX8_held, by decide +kernel, by decide +kernel, _, _, rfl⟩
set_option maxRecDepth 100000 in
theorem mvX8_353 : MV RX8 353 8 yX8_heldIn cX8_heldIn 5 (some .int) (((parseMethodDescriptor "(II)I").map (fun d => d.parameters.length)).getD 0) := ⟨gw_t 1761 (by rfl) (by rfl), gw_t 1763 (by rfl) (by rfl), gw_p 83 (by rfl) (by rfl), gw_t 9 (by rfl) (by rfl), k_yX8_heldIn, by decide +kernel, by decide +kernel, _, _, rfl⟩
set_option maxRecDepth 100000 in
theorem mvL_215 : MV RL 215 8 yX8_first cX8_first 3 (some .int) (((parseMethodDescriptor "(II)I").map (fun d => d.parameters.length)).getD 0) := ⟨gw_t 1765 (by rfl) (by rfl), gw_t 1766 (by rfl) (by rfl), gw_t 1767 (by rfl) (by rfl), gw_t 9 (by rfl) (by rfl), k_yX8_first, by decide +kernel, by decide +kernel, _, _, rfl⟩
set_option maxRecDepth 100000 in
theorem mvL_218 : MV RL 218 8 yX8_back cX8_back 6 (some .int) (((parseMethodDescriptor "(III)I").map (fun d => d.parameters.length)).getD 0) := ⟨gw_t 1769 (by rfl) (by rfl), gw_t 1770 (by rfl) (by rfl), gw_t 1771 (by rfl) (by rfl), gw_t 9 (by rfl) (by rfl), k_yX8_back, by decide +kernel, by decide +kernel, _, _, rfl⟩
set_option maxRecDepth 100000 in
theorem mvL_221 : MV RL 221 8 yX8_uses cX8_uses 3 (some .int) (((parseMethodDescriptor "(II)I").map (fun d => d.parameters.length)).getD 0) := ⟨gw_t 1773 (by rfl) (by rfl), gw_t 1774 (by rfl) (by rfl), gw_t 1775 (by rfl) (by rfl), gw_t 9 (by rfl) (by rfl), k_yX8_uses, by decide +kernel, by decide +kernel, _, _, rfl⟩
set_option maxRecDepth 100000 in
theorem mvL_224 : MV RL 224 8 yX8_seen cX8_seen 3 (some .int) (((parseMethodDescriptor "(II)I").map (fun d => d.parameters.length)).getD 0) := ⟨gw_t 1777 (by rfl) (by rfl), gw_t 1778 (by rfl) (by rfl), gw_t 1779 (by rfl) (by rfl), gw_t 9 (by rfl) (by rfl), k_yX8_seen, by decide +kernel, by decide +kernel, _, _, rfl⟩
set_option maxRecDepth 100000 in
theorem mvL_228 : MV RL 228 8 yX8_film cX8_film 2 (some .int) (((parseMethodDescriptor "()I").map (fun d => d.parameters.length)).getD 0) := ⟨gw_t 1781 (by rfl) (by rfl), gw_t 1782 (by rfl) (by rfl), gw_t 1783 (by rfl) (by rfl), gw_t 9 (by rfl) (by rfl), k_yX8_film, by decide +kernel, by decide +kernel, _, _, rfl⟩
set_option maxRecDepth 100000 in
theorem mvL_232 : MV RL 232 8 yX8_end cX8_end 2 (some .int) (((parseMethodDescriptor "()I").map (fun d => d.parameters.length)).getD 0) := ⟨gw_t 1785 (by rfl) (by rfl), gw_t 1786 (by rfl) (by rfl), gw_t 1787 (by rfl) (by rfl), gw_t 9 (by rfl) (by rfl), k_yX8_end, by decide +kernel, by decide +kernel, _, _, rfl⟩
set_option maxRecDepth 100000 in
theorem mvL_235 : MV RL 235 8 yX8_gap cX8_gap 3 (some .int) (((parseMethodDescriptor "(II)I").map (fun d => d.parameters.length)).getD 0) := ⟨gw_t 1789 (by rfl) (by rfl), gw_t 1790 (by rfl) (by rfl), gw_t 1791 (by rfl) (by rfl), gw_t 9 (by rfl) (by rfl), k_yX8_gap, by decide +kernel, by decide +kernel, _, _, rfl⟩
set_option maxRecDepth 100000 in
theorem mvX8_359 : MV RX8 359 8 yX8_isFilm cX8_isFilm 2 (some .boolean) (((parseMethodDescriptor "(I)Z").map (fun d => d.parameters.length)).getD 0) := ⟨gw_t 1793 (by rfl) (by rfl), gw_t 1795 (by rfl) (by rfl), gw_p 84 (by rfl) (by rfl), gw_t 9 (by rfl) (by rfl), k_yX8_isFilm, by decide +kernel, by decide +kernel, _, _, rfl⟩
set_option maxRecDepth 100000 in
theorem mvL_238 : MV RL 238 8 yX8_fits cX8_fits 3 (some .int) (((parseMethodDescriptor "(II)I").map (fun d => d.parameters.length)).getD 0) := ⟨gw_t 1797 (by rfl) (by rfl), gw_t 1798 (by rfl) (by rfl), gw_t 1799 (by rfl) (by rfl), gw_t 9 (by rfl) (by rfl), k_yX8_fits, by decide +kernel, by decide +kernel, _, _, rfl⟩
set_option maxRecDepth 100000 in
theorem mvX8_362 : MV RX8 362 8 yX8_fitting cX8_fitting 7 (some .int) (((parseMethodDescriptor "(II)I").map (fun d => d.parameters.length)).getD 0) := ⟨gw_t 1801 (by rfl) (by rfl), gw_t 1803 (by rfl) (by rfl), gw_p 85 (by rfl) (by rfl), gw_t 9 (by rfl) (by rfl), k_yX8_fitting, by decide +kernel, by decide +kernel, _, _, rfl⟩
set_option maxRecDepth 100000 in
theorem mvL_242 : MV RL 242 8 yX8_read cX8_read 5 (some .int) (((parseMethodDescriptor "()I").map (fun d => d.parameters.length)).getD 0) := ⟨gw_t 1805 (by rfl) (by rfl), gw_t 1806 (by rfl) (by rfl), gw_t 1807 (by rfl) (by rfl), gw_t 9 (by rfl) (by rfl), k_yX8_read, by decide +kernel, by decide +kernel, _, _, rfl⟩
set_option maxRecDepth 100000 in
theorem mvL_246 : MV RL 246 8 yX8_trial cX8_trial 5 (some .int) (((parseMethodDescriptor "(IIII)I").map (fun d => d.parameters.length)).getD 0) := ⟨gw_t 1809 (by rfl) (by rfl), gw_t 1810 (by rfl) (by rfl), gw_t 1811 (by rfl) (by rfl), gw_t 9 (by rfl) (by rfl), k_yX8_trial, by decide +kernel, by decide +kernel, _, _, rfl⟩
set_option maxRecDepth 100000 in
theorem mvX8_371 : MV RX8 371 8 yX8_tryWith cX8_tryWith 6 (some .int) (((parseMethodDescriptor "(IIII)I").map (fun d => d.parameters.length)).getD 0) := ⟨gw_t 1813 (by rfl) (by rfl), gw_t 1815 (by rfl) (by rfl), gw_p 86 (by rfl) (by rfl), gw_t 9 (by rfl) (by rfl), k_yX8_tryWith, by decide +kernel, by decide +kernel, _, _, rfl⟩
set_option maxRecDepth 100000 in
theorem mvX8_365 : MV RX8 365 8 yX8_begins cX8_begins 2 none (((parseMethodDescriptor "()V").map (fun d => d.parameters.length)).getD 0) := ⟨gw_t 1817 (by rfl) (by rfl), gw_t 1819 (by rfl) (by rfl), gw_p 87 (by rfl) (by rfl), gw_t 9 (by rfl) (by rfl), k_yX8_begins, by decide +kernel, by decide +kernel, _, _, rfl⟩
set_option maxRecDepth 100000 in
theorem mvX8_368 : MV RX8 368 8 yX8_tries cX8_tries 4 none (((parseMethodDescriptor "(II)V").map (fun d => d.parameters.length)).getD 0) := ⟨gw_t 1821 (by rfl) (by rfl), gw_t 1823 (by rfl) (by rfl), gw_p 88 (by rfl) (by rfl), gw_t 9 (by rfl) (by rfl), k_yX8_tries, by decide +kernel, by decide +kernel, _, _, rfl⟩
set_option maxRecDepth 100000 in
theorem mvL_249 : MV RL 249 8 yX8_fewest cX8_fewest 8 (some .int) (((parseMethodDescriptor "(IIII)I").map (fun d => d.parameters.length)).getD 0) := ⟨gw_t 1825 (by rfl) (by rfl), gw_t 1826 (by rfl) (by rfl), gw_t 1827 (by rfl) (by rfl), gw_t 9 (by rfl) (by rfl), k_yX8_fewest, by decide +kernel, by decide +kernel, _, _, rfl⟩
set_option maxRecDepth 100000 in
theorem msX8_374 : MS RX8 374 yX8_isRun cX8_isRun 3 (some .boolean) (((parseMethodDescriptor "(III)Z").map (fun d => d.parameters.length)).getD 0) := ⟨gw_t 1829 (by rfl) (by rfl), gw_t 1830 (by rfl) (by rfl), gw_t 9 (by rfl) (by rfl), k_yX8_isRun, by decide +kernel, by decide +kernel⟩
set_option maxRecDepth 100000 in
theorem mvL_252 : MV RL 252 8 yX8_needed cX8_needed 8 (some .int) (((parseMethodDescriptor "(III)I").map (fun d => d.parameters.length)).getD 0) := ⟨gw_t 1832 (by rfl) (by rfl), gw_t 1833 (by rfl) (by rfl), gw_t 1834 (by rfl) (by rfl), gw_t 9 (by rfl) (by rfl), k_yX8_needed, by decide +kernel, by decide +kernel, _, _, rfl⟩
set_option maxRecDepth 100000 in
theorem mvL_255 : MV RL 255 8 yX8_unlike cX8_unlike 3 (some .int) (((parseMethodDescriptor "(II)I").map (fun d => d.parameters.length)).getD 0) := ⟨gw_t 1836 (by rfl) (by rfl), gw_t 1837 (by rfl) (by rfl), gw_t 1838 (by rfl) (by rfl), gw_t 9 (by rfl) (by rfl), k_yX8_unlike, by decide +kernel, by decide +kernel, _, _, rfl⟩
set_option maxRecDepth 100000 in
theorem mvX8_377 : MV RX8 377 8 yX8_unlikeOf cX8_unlikeOf 5 (some .int) (((parseMethodDescriptor "(II)I").map (fun d => d.parameters.length)).getD 0) := ⟨gw_t 1840 (by rfl) (by rfl), gw_t 1842 (by rfl) (by rfl), gw_p 89 (by rfl) (by rfl), gw_t 9 (by rfl) (by rfl), k_yX8_unlikeOf, by decide +kernel, by decide +kernel, _, _, rfl⟩
set_option maxRecDepth 100000 in
theorem mvX8_380 : MV RX8 380 8 yX8_greatest cX8_greatest 8 (some .int) (((parseMethodDescriptor "(II)I").map (fun d => d.parameters.length)).getD 0) := ⟨gw_t 1844 (by rfl) (by rfl), gw_t 1846 (by rfl) (by rfl), gw_p 90 (by rfl) (by rfl), gw_t 9 (by rfl) (by rfl), k_yX8_greatest, by decide +kernel, by decide +kernel, _, _, rfl⟩
set_option maxRecDepth 100000 in
theorem mvL_258 : MV RL 258 8 yX8_meets cX8_meets 5 (some .int) (((parseMethodDescriptor "(II)I").map (fun d => d.parameters.length)).getD 0) := ⟨gw_t 1848 (by rfl) (by rfl), gw_t 1849 (by rfl) (by rfl), gw_t 1850 (by rfl) (by rfl), gw_t 9 (by rfl) (by rfl), k_yX8_meets, by decide +kernel, by decide +kernel, _, _, rfl⟩
set_option maxRecDepth 100000 in
theorem mvL_269 : MV RL 269 8 yX8_plain cX8_plain 8 (some .int) (((parseMethodDescriptor "(I)I").map (fun d => d.parameters.length)).getD 0) := ⟨gw_t 1852 (by rfl) (by rfl), gw_t 1853 (by rfl) (by rfl), gw_t 1854 (by rfl) (by rfl), gw_t 9 (by rfl) (by rfl), k_yX8_plain, by decide +kernel, by decide +kernel, _, _, rfl⟩
set_option maxRecDepth 100000 in
theorem mvX8_383 : MV RX8 383 8 yX8_heaviest cX8_heaviest 5 (some .int) (((parseMethodDescriptor "(II)I").map (fun d => d.parameters.length)).getD 0) := ⟨gw_t 1856 (by rfl) (by rfl), gw_t 1858 (by rfl) (by rfl), gw_p 91 (by rfl) (by rfl), gw_t 9 (by rfl) (by rfl), k_yX8_heaviest, by decide +kernel, by decide +kernel, _, _, rfl⟩
set_option maxRecDepth 100000 in
theorem mvL_272 : MV RL 272 8 yX8_word_ cX8_word_ 3 (some .int) (((parseMethodDescriptor "(II)I").map (fun d => d.parameters.length)).getD 0) := ⟨gw_t 1860 (by rfl) (by rfl), gw_t 1861 (by rfl) (by rfl), gw_t 1862 (by rfl) (by rfl), gw_t 9 (by rfl) (by rfl), k_yX8_word_, by decide +kernel, by decide +kernel, _, _, rfl⟩
set_option maxRecDepth 100000 in
theorem mvL_275 : MV RL 275 8 yX8_blurred cX8_blurred 6 (some .int) (((parseMethodDescriptor "(II)I").map (fun d => d.parameters.length)).getD 0) := ⟨gw_t 1864 (by rfl) (by rfl), gw_t 1865 (by rfl) (by rfl), gw_t 1866 (by rfl) (by rfl), gw_t 9 (by rfl) (by rfl), k_yX8_blurred, by decide +kernel, by decide +kernel, _, _, rfl⟩
set_option maxRecDepth 100000 in
theorem mvL_278 : MV RL 278 8 yX8_nearest cX8_nearest 6 (some .int) (((parseMethodDescriptor "(I)I").map (fun d => d.parameters.length)).getD 0) := ⟨gw_t 1868 (by rfl) (by rfl), gw_t 1869 (by rfl) (by rfl), gw_t 1870 (by rfl) (by rfl), gw_t 9 (by rfl) (by rfl), k_yX8_nearest, by decide +kernel, by decide +kernel, _, _, rfl⟩
set_option maxRecDepth 100000 in
theorem mvL_281 : MV RL 281 8 yX8_since cX8_since 3 (some .int) (((parseMethodDescriptor "(II)I").map (fun d => d.parameters.length)).getD 0) := ⟨gw_t 1872 (by rfl) (by rfl), gw_t 1873 (by rfl) (by rfl), gw_t 1874 (by rfl) (by rfl), gw_t 9 (by rfl) (by rfl), k_yX8_since, by decide +kernel, by decide +kernel, _, _, rfl⟩
set_option maxRecDepth 100000 in
theorem mvL_284 : MV RL 284 8 yX8_taught cX8_taught 3 (some .int) (((parseMethodDescriptor "(II)I").map (fun d => d.parameters.length)).getD 0) := ⟨gw_t 1876 (by rfl) (by rfl), gw_t 1877 (by rfl) (by rfl), gw_t 1878 (by rfl) (by rfl), gw_t 9 (by rfl) (by rfl), k_yX8_taught, by decide +kernel, by decide +kernel, _, _, rfl⟩
set_option maxRecDepth 100000 in
theorem mvX8_386 : MV RX8 386 8 yX8_teacherOf cX8_teacherOf 5 (some .int) (((parseMethodDescriptor "(II)I").map (fun d => d.parameters.length)).getD 0) := ⟨gw_t 1880 (by rfl) (by rfl), gw_t 1882 (by rfl) (by rfl), gw_p 92 (by rfl) (by rfl), gw_t 9 (by rfl) (by rfl), k_yX8_teacherOf, by decide +kernel, by decide +kernel, _, _, rfl⟩
set_option maxRecDepth 100000 in
theorem mvL_287 : MV RL 287 8 yX8_root cX8_root 6 (some .int) (((parseMethodDescriptor "(II)I").map (fun d => d.parameters.length)).getD 0) := ⟨gw_t 1884 (by rfl) (by rfl), gw_t 1885 (by rfl) (by rfl), gw_t 1886 (by rfl) (by rfl), gw_t 9 (by rfl) (by rfl), k_yX8_root, by decide +kernel, by decide +kernel, _, _, rfl⟩
set_option maxRecDepth 100000 in
theorem mvL_290 : MV RL 290 8 yX8_untaught cX8_untaught 5 (some .int) (((parseMethodDescriptor "(III)I").map (fun d => d.parameters.length)).getD 0) := ⟨gw_t 1888 (by rfl) (by rfl), gw_t 1889 (by rfl) (by rfl), gw_t 1890 (by rfl) (by rfl), gw_t 9 (by rfl) (by rfl), k_yX8_untaught, by decide +kernel, by decide +kernel, _, _, rfl⟩
set_option maxRecDepth 100000 in
theorem mvL_293 : MV RL 293 8 yX8_odds cX8_odds 8 (some .int) (((parseMethodDescriptor "(IIII)I").map (fun d => d.parameters.length)).getD 0) := ⟨gw_t 1892 (by rfl) (by rfl), gw_t 1893 (by rfl) (by rfl), gw_t 1894 (by rfl) (by rfl), gw_t 9 (by rfl) (by rfl), k_yX8_odds, by decide +kernel, by decide +kernel, _, _, rfl⟩
set_option maxRecDepth 100000 in
theorem mvL_296 : MV RL 296 8 yX8_right cX8_right 8 (some .int) (((parseMethodDescriptor "(III)I").map (fun d => d.parameters.length)).getD 0) := ⟨gw_t 1896 (by rfl) (by rfl), gw_t 1897 (by rfl) (by rfl), gw_t 1898 (by rfl) (by rfl), gw_t 9 (by rfl) (by rfl), k_yX8_right, by decide +kernel, by decide +kernel, _, _, rfl⟩
set_option maxRecDepth 100000 in
theorem mvL_262 : MV RL 262 8 yX8_image cX8_image 2 (some .int) (((parseMethodDescriptor "()I").map (fun d => d.parameters.length)).getD 0) := ⟨gw_t 1900 (by rfl) (by rfl), gw_t 1901 (by rfl) (by rfl), gw_t 1902 (by rfl) (by rfl), gw_t 9 (by rfl) (by rfl), k_yX8_image, by decide +kernel, by decide +kernel, _, _, rfl⟩
set_option maxRecDepth 100000 in
theorem mvL_266 : MV RL 266 8 yX8_restore cX8_restore 2 (some .int) (((parseMethodDescriptor "()I").map (fun d => d.parameters.length)).getD 0) := ⟨gw_t 1904 (by rfl) (by rfl), gw_t 1905 (by rfl) (by rfl), gw_t 1906 (by rfl) (by rfl), gw_t 9 (by rfl) (by rfl), k_yX8_restore, by decide +kernel, by decide +kernel, _, _, rfl⟩
set_option maxRecDepth 100000 in
theorem mvL_300 : MV RL 300 8 yX8_count cX8_count 4 (some .int) (((parseMethodDescriptor "(I)I").map (fun d => d.parameters.length)).getD 0) := ⟨gw_t 1908 (by rfl) (by rfl), gw_t 1909 (by rfl) (by rfl), gw_t 1910 (by rfl) (by rfl), gw_t 9 (by rfl) (by rfl), k_yX8_count, by decide +kernel, by decide +kernel, _, _, rfl⟩
set_option maxRecDepth 100000 in
theorem mnX5_89 : MN RX5 89 yX7_roleAt "YardTalk" cX7_roleAt 2 (some .int) (((parseMethodDescriptor "(II)I").map (fun d => d.parameters.length)).getD 0) := ⟨by decide +kernel, gw_t 461 (by rfl) (by rfl), gw_t 1 (by rfl) (by rfl), k_yX7_roleAt, by decide +kernel, by decide +kernel⟩
set_option maxRecDepth 100000 in
theorem mnX5_92 : MN RX5 92 yX7_conceptOf "YardTalk" cX7_conceptOf 2 (some .int) (((parseMethodDescriptor "(II)I").map (fun d => d.parameters.length)).getD 0) := ⟨by decide +kernel, gw_t 466 (by rfl) (by rfl), gw_t 1 (by rfl) (by rfl), k_yX7_conceptOf, by decide +kernel, by decide +kernel⟩
set_option maxRecDepth 100000 in
theorem mnX6_83 : MN RX6 83 yX7_signIndex "YardTalk" cX7_signIndex 3 (some .int) (((parseMethodDescriptor "(III)I").map (fun d => d.parameters.length)).getD 0) := ⟨by decide +kernel, gw_t 477 (by rfl) (by rfl), gw_t 1 (by rfl) (by rfl), k_yX7_signIndex, by decide +kernel, by decide +kernel⟩
set_option maxRecDepth 100000 in
theorem mnX5_127 : MN RX5 127 yX7_signIndex "YardTalk" cX7_signIndex 3 (some .int) (((parseMethodDescriptor "(III)I").map (fun d => d.parameters.length)).getD 0) := ⟨by decide +kernel, gw_t 477 (by rfl) (by rfl), gw_t 1 (by rfl) (by rfl), k_yX7_signIndex, by decide +kernel, by decide +kernel⟩
set_option maxRecDepth 100000 in
theorem mnX4_74 : MN RX4 74 yX7_keepInBounds "YardTalk" cX7_keepInBounds 1 (some .int) (((parseMethodDescriptor "(I)I").map (fun d => d.parameters.length)).getD 0) := ⟨by decide +kernel, gw_t 538 (by rfl) (by rfl), gw_t 1 (by rfl) (by rfl), k_yX7_keepInBounds, by decide +kernel, by decide +kernel⟩
set_option maxRecDepth 100000 in
theorem mnX6_109 : MN RX6 109 yX7_keepInBounds "YardTalk" cX7_keepInBounds 1 (some .int) (((parseMethodDescriptor "(I)I").map (fun d => d.parameters.length)).getD 0) := ⟨by decide +kernel, gw_t 538 (by rfl) (by rfl), gw_t 1 (by rfl) (by rfl), k_yX7_keepInBounds, by decide +kernel, by decide +kernel⟩
set_option maxRecDepth 100000 in
theorem in_YardTalkLaw : Cond.initialized "YardTalkLaw" ∈ gw := gw_t 0 (by rfl) (by rfl)
set_option maxRecDepth 100000 in
theorem in_YardTalk : Cond.initialized "YardTalk" ∈ gw := gw_t 1 (by rfl) (by rfl)
set_option maxRecDepth 100000 in
theorem in_YardTalk_World : Cond.initialized "YardTalk$World" ∈ gw := gw_t 2 (by rfl) (by rfl)
set_option maxRecDepth 100000 in
theorem in_YardTalk_Notes : Cond.initialized "YardTalk$Notes" ∈ gw := gw_t 3 (by rfl) (by rfl)
set_option maxRecDepth 100000 in
theorem in_YardTalk_Speech : Cond.initialized "YardTalk$Speech" ∈ gw := gw_t 4 (by rfl) (by rfl)
set_option maxRecDepth 100000 in
theorem in_YardTalk_Ruling : Cond.initialized "YardTalk$Ruling" ∈ gw := gw_t 5 (by rfl) (by rfl)
set_option maxRecDepth 100000 in
theorem in_YardTalk_LawReader : Cond.initialized "YardTalk$LawReader" ∈ gw := gw_t 6 (by rfl) (by rfl)
set_option maxRecDepth 100000 in
theorem in_YardTalk_Film : Cond.initialized "YardTalk$Film" ∈ gw := gw_t 7 (by rfl) (by rfl)
set_option maxRecDepth 100000 in
theorem in_YardTalk_Law : Cond.initialized "YardTalk$Law" ∈ gw := gw_t 8 (by rfl) (by rfl)
set_option maxRecDepth 100000 in
theorem in_YardTalkModel : Cond.initialized "YardTalkModel" ∈ gw := gw_t 9 (by rfl) (by rfl)
set_option maxRecDepth 100000 in
theorem in_java_lang_Throwable : Cond.initialized "java/lang/Throwable" ∈ gw := gw_t 10 (by rfl) (by rfl)
set_option maxRecDepth 100000 in
theorem in_java_lang_Exception : Cond.initialized "java/lang/Exception" ∈ gw := gw_t 11 (by rfl) (by rfl)
set_option maxRecDepth 100000 in
theorem in_java_lang_RuntimeException : Cond.initialized "java/lang/RuntimeException" ∈ gw := gw_t 12 (by rfl) (by rfl)
set_option maxRecDepth 100000 in
theorem in_java_lang_IllegalArgumentException : Cond.initialized "java/lang/IllegalArgumentException" ∈ gw := gw_t 13 (by rfl) (by rfl)
set_option maxRecDepth 100000 in
theorem in_java_util_NoSuchElementException : Cond.initialized "java/util/NoSuchElementException" ∈ gw := gw_t 14 (by rfl) (by rfl)
set_option maxRecDepth 100000 in
theorem in_java_lang_Math : Cond.initialized "java/lang/Math" ∈ gw := gw_t 15 (by rfl) (by rfl)
set_option maxRecDepth 100000 in
theorem in_java_lang_IllegalStateException : Cond.initialized "java/lang/IllegalStateException" ∈ gw := gw_t 16 (by rfl) (by rfl)
set_option maxRecDepth 100000 in
theorem in_java_lang_String : Cond.initialized "java/lang/String" ∈ gw := gw_t 17 (by rfl) (by rfl)
set_option maxRecDepth 100000 in
theorem in_java_lang_StringLatin1 : Cond.initialized "java/lang/StringLatin1" ∈ gw := gw_t 18 (by rfl) (by rfl)
set_option maxRecDepth 100000 in
theorem in_jdk_internal_util_Preconditions : Cond.initialized "jdk/internal/util/Preconditions" ∈ gw := gw_t 19 (by rfl) (by rfl)
set_option maxRecDepth 100000 in
theorem in_java_lang_StringUTF16 : Cond.initialized "java/lang/StringUTF16" ∈ gw := gw_t 20 (by rfl) (by rfl)
set_option maxRecDepth 100000 in
theorem in_java_lang_IndexOutOfBoundsException : Cond.initialized "java/lang/IndexOutOfBoundsException" ∈ gw := gw_t 21 (by rfl) (by rfl)
set_option maxRecDepth 100000 in
theorem in_java_lang_System : Cond.initialized "java/lang/System" ∈ gw := gw_t 22 (by rfl) (by rfl)
set_option maxRecDepth 100000 in
theorem clL_8 : Cond.classLink RL 8 "YardTalk" ∈ gw := gw_t 23 (by rfl) (by rfl)
set_option maxRecDepth 100000 in
theorem clX7_7 : Cond.classLink RX7 7 "YardTalk$World" ∈ gw := gw_t 31 (by rfl) (by rfl)
set_option maxRecDepth 100000 in
theorem clX7_23 : Cond.classLink RX7 23 "YardTalk$Film" ∈ gw := gw_t 118 (by rfl) (by rfl)
set_option maxRecDepth 100000 in
theorem clX7_29 : Cond.classLink RX7 29 "YardTalk$Law" ∈ gw := gw_t 120 (by rfl) (by rfl)
set_option maxRecDepth 100000 in
theorem clX7_35 : Cond.classLink RX7 35 "YardTalk$Notes" ∈ gw := gw_t 122 (by rfl) (by rfl)
set_option maxRecDepth 100000 in
theorem clX7_42 : Cond.classLink RX7 42 "YardTalk$Speech" ∈ gw := gw_t 148 (by rfl) (by rfl)
set_option maxRecDepth 100000 in
theorem clX7_49 : Cond.classLink RX7 49 "YardTalk$Ruling" ∈ gw := gw_t 198 (by rfl) (by rfl)
set_option maxRecDepth 100000 in
theorem clX7_56 : Cond.classLink RX7 56 "YardTalk$LawReader" ∈ gw := gw_t 217 (by rfl) (by rfl)
set_option maxRecDepth 100000 in
theorem clX0_9 : Cond.classLink RX0 9 "YardTalk$World" ∈ gw := gw_t 257 (by rfl) (by rfl)
set_option maxRecDepth 100000 in
theorem ctX6_70 : Jvm.Cond.constant RX6 70 1103515245 ∈ gw := gw_t 452 (by rfl) (by rfl)
set_option maxRecDepth 100000 in
theorem clL_13 : Cond.classLink RL 13 "java/lang/IllegalArgumentException" ∈ gw := gw_t 593 (by rfl) (by rfl)
set_option maxRecDepth 100000 in
theorem clX7_107 : Cond.classLink RX7 107 "java/lang/IllegalArgumentException" ∈ gw := gw_t 601 (by rfl) (by rfl)
set_option maxRecDepth 100000 in
theorem clL_19 : Cond.classLink RL 19 "java/util/NoSuchElementException" ∈ gw := gw_t 682 (by rfl) (by rfl)
set_option maxRecDepth 100000 in
theorem clX7_366 : Cond.classLink RX7 366 "java/util/NoSuchElementException" ∈ gw := gw_t 691 (by rfl) (by rfl)
set_option maxRecDepth 100000 in
theorem clL_45 : Cond.classLink RL 45 "java/lang/IllegalStateException" ∈ gw := gw_t 783 (by rfl) (by rfl)
set_option maxRecDepth 100000 in
theorem clX7_187 : Cond.classLink RX7 187 "java/lang/IllegalStateException" ∈ gw := gw_t 789 (by rfl) (by rfl)
set_option maxRecDepth 100000 in
theorem clL_53 : Cond.classLink RL 53 "java/lang/IndexOutOfBoundsException" ∈ gw := gw_t 983 (by rfl) (by rfl)
set_option maxRecDepth 100000 in
theorem clX7_243 : Cond.classLink RX7 243 "java/lang/IndexOutOfBoundsException" ∈ gw := gw_t 992 (by rfl) (by rfl)
set_option maxRecDepth 100000 in
theorem clL_137 : Cond.classLink RL 137 "YardTalkModel" ∈ gw := gw_t 1307 (by rfl) (by rfl)
set_option maxRecDepth 100000 in
theorem ctX8_227 : Jvm.Cond.constant RX8 227 12748366 ∈ gw := gw_t 1603 (by rfl) (by rfl)
set_option maxRecDepth 100000 in
theorem ctX8_228 : Jvm.Cond.constant RX8 228 16322738 ∈ gw := gw_t 1604 (by rfl) (by rfl)
set_option maxRecDepth 100000 in
theorem ctX8_229 : Jvm.Cond.constant RX8 229 409189 ∈ gw := gw_t 1605 (by rfl) (by rfl)
set_option maxRecDepth 100000 in
theorem ctX8_230 : Jvm.Cond.constant RX8 230 448116 ∈ gw := gw_t 1606 (by rfl) (by rfl)
set_option maxRecDepth 100000 in
theorem ctX8_204 : Jvm.Cond.constant RX8 204 12748404 ∈ gw := gw_t 1650 (by rfl) (by rfl)
set_option maxRecDepth 100000 in
theorem ctX8_205 : Jvm.Cond.constant RX8 205 441972 ∈ gw := gw_t 1651 (by rfl) (by rfl)
set_option maxRecDepth 100000 in
theorem ctX8_181 : Jvm.Cond.constant RX8 181 21239365 ∈ gw := gw_t 1655 (by rfl) (by rfl)
set_option maxRecDepth 100000 in
theorem ctX8_182 : Jvm.Cond.constant RX8 182 19176724 ∈ gw := gw_t 1656 (by rfl) (by rfl)
set_option maxRecDepth 100000 in
theorem ctX8_183 : Jvm.Cond.constant RX8 183 20201198 ∈ gw := gw_t 1657 (by rfl) (by rfl)
set_option maxRecDepth 100000 in
theorem ctX8_184 : Jvm.Cond.constant RX8 184 777297172 ∈ gw := gw_t 1658 (by rfl) (by rfl)
set_option maxRecDepth 100000 in
theorem ctX8_185 : Jvm.Cond.constant RX8 185 21016947 ∈ gw := gw_t 1659 (by rfl) (by rfl)
set_option maxRecDepth 100000 in
theorem ctX8_105 : Jvm.Cond.constant RX8 105 1103515245 ∈ gw := gw_t 1708 (by rfl) (by rfl)
set_option maxRecDepth 100000 in
theorem ac_st : Cond.static arraycopyName ∈ gw := gw_t 398 (by rfl) (by rfl)
set_option maxRecDepth 100000 in
theorem ac_nat : Cond.native arraycopyName ∈ gw := gw_t 399 (by rfl) (by rfl)
set_option maxRecDepth 100000 in
theorem mm_min_st : Cond.static Lib.Math.min.name ∈ gw := gw_t 541 (by rfl) (by rfl)
set_option maxRecDepth 100000 in
theorem mm_min_c : Cond.code Lib.Math.min.name Lib.Math.min.code 2 (some .int) ∈ gw := gw_t 542 (by rfl) (by rfl)
set_option maxRecDepth 100000 in
theorem mm_max_st : Cond.static Lib.Math.max.name ∈ gw := gw_t 544 (by rfl) (by rfl)
set_option maxRecDepth 100000 in
theorem mm_max_c : Cond.code Lib.Math.max.name Lib.Math.max.code 2 (some .int) ∈ gw := gw_t 545 (by rfl) (by rfl)
end
