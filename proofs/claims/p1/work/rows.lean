section
-- ===== PART A: goes FIRST, ahead of the names: the tables' words, and 'selects' of the private methods out of them =====
/-- a private method of a class that the tables say can be made, by its rows of tables_1 -/
def lw_okq (q : MethodName × Nat) : Prop := (q.1.cls ≠ "java/lang/invoke/MethodHandle" ∧ q.1.cls ≠ "java/lang/invoke/VarHandle") ∧ Cond.instantiable q.1.cls q.2 ∈ tables_1 ∧ Cond.privateMethod q.1 ∈ tables_1 ∧ Cond.instanceMethod q.1 ∈ tables_1
theorem lw_p0 : lw_okq (⟨"CrossingWords$CaseReader", "readSaying", "(I)V"⟩, 3) := ⟨⟨by decide +kernel, by decide +kernel⟩, List.mem_of_getElem? (i := 98) (by decide +kernel), List.mem_of_getElem? (i := 356) (by decide +kernel), List.mem_of_getElem? (i := 357) (by decide +kernel)⟩
theorem lw_p1 : lw_okq (⟨"CrossingWords$CaseReader", "readOther", "(I)V"⟩, 3) := ⟨⟨by decide +kernel, by decide +kernel⟩, List.mem_of_getElem? (i := 98) (by decide +kernel), List.mem_of_getElem? (i := 425) (by decide +kernel), List.mem_of_getElem? (i := 426) (by decide +kernel)⟩
theorem lw_p2 : lw_okq (⟨"CrossingWords$CaseReader", "readSaid", "(II)V"⟩, 3) := ⟨⟨by decide +kernel, by decide +kernel⟩, List.mem_of_getElem? (i := 98) (by decide +kernel), List.mem_of_getElem? (i := 430) (by decide +kernel), List.mem_of_getElem? (i := 431) (by decide +kernel)⟩
theorem lw_p3 : lw_okq (⟨"CrossingWords$CaseReader", "fits", "(III)Z"⟩, 3) := ⟨⟨by decide +kernel, by decide +kernel⟩, List.mem_of_getElem? (i := 98) (by decide +kernel), List.mem_of_getElem? (i := 438) (by decide +kernel), List.mem_of_getElem? (i := 439) (by decide +kernel)⟩
theorem lw_p4 : lw_okq (⟨"CrossingWords$CaseReader", "readTerms", "(I)V"⟩, 3) := ⟨⟨by decide +kernel, by decide +kernel⟩, List.mem_of_getElem? (i := 98) (by decide +kernel), List.mem_of_getElem? (i := 443) (by decide +kernel), List.mem_of_getElem? (i := 444) (by decide +kernel)⟩
theorem lw_p5 : lw_okq (⟨"CrossingWords$CaseReader", "readWords", "(I)V"⟩, 3) := ⟨⟨by decide +kernel, by decide +kernel⟩, List.mem_of_getElem? (i := 98) (by decide +kernel), List.mem_of_getElem? (i := 447) (by decide +kernel), List.mem_of_getElem? (i := 448) (by decide +kernel)⟩
theorem lw_p6 : lw_okq (⟨"CrossingWords$CaseReader", "readBut", "(I)V"⟩, 3) := ⟨⟨by decide +kernel, by decide +kernel⟩, List.mem_of_getElem? (i := 98) (by decide +kernel), List.mem_of_getElem? (i := 464) (by decide +kernel), List.mem_of_getElem? (i := 465) (by decide +kernel)⟩
theorem lw_p7 : lw_okq (⟨"CrossingWords$CaseReader", "readTimes", "(I)V"⟩, 3) := ⟨⟨by decide +kernel, by decide +kernel⟩, List.mem_of_getElem? (i := 98) (by decide +kernel), List.mem_of_getElem? (i := 468) (by decide +kernel), List.mem_of_getElem? (i := 469) (by decide +kernel)⟩
theorem lw_p8 : lw_okq (⟨"CrossingWords$CaseReader", "readSpan", "(III)V"⟩, 3) := ⟨⟨by decide +kernel, by decide +kernel⟩, List.mem_of_getElem? (i := 98) (by decide +kernel), List.mem_of_getElem? (i := 478) (by decide +kernel), List.mem_of_getElem? (i := 479) (by decide +kernel)⟩
theorem lw_p9 : lw_okq (⟨"CrossingWords", "endReading", "()V"⟩, 9) := ⟨⟨by decide +kernel, by decide +kernel⟩, List.mem_of_getElem? (i := 19) (by decide +kernel), List.mem_of_getElem? (i := 492) (by decide +kernel), List.mem_of_getElem? (i := 493) (by decide +kernel)⟩
theorem lw_p10 : lw_okq (⟨"CrossingWords$LawReader", "readRule", "()V"⟩, 2) := ⟨⟨by decide +kernel, by decide +kernel⟩, List.mem_of_getElem? (i := 114) (by decide +kernel), List.mem_of_getElem? (i := 526) (by decide +kernel), List.mem_of_getElem? (i := 527) (by decide +kernel)⟩
theorem lw_p11 : lw_okq (⟨"CrossingWords$LawReader", "readYes", "()V"⟩, 2) := ⟨⟨by decide +kernel, by decide +kernel⟩, List.mem_of_getElem? (i := 114) (by decide +kernel), List.mem_of_getElem? (i := 532) (by decide +kernel), List.mem_of_getElem? (i := 533) (by decide +kernel)⟩
theorem lw_p12 : lw_okq (⟨"CrossingWords$Bench", "setHours", "(II)V"⟩, 16) := ⟨⟨by decide +kernel, by decide +kernel⟩, List.mem_of_getElem? (i := 184) (by decide +kernel), List.mem_of_getElem? (i := 611) (by decide +kernel), List.mem_of_getElem? (i := 612) (by decide +kernel)⟩
theorem lw_p13 : lw_okq (⟨"CrossingWords$Court", "learnGivens", "(LCrossingWords$Case;I[II)V"⟩, 11) := ⟨⟨by decide +kernel, by decide +kernel⟩, List.mem_of_getElem? (i := 128) (by decide +kernel), List.mem_of_getElem? (i := 641) (by decide +kernel), List.mem_of_getElem? (i := 642) (by decide +kernel)⟩
theorem lw_p14 : lw_okq (⟨"CrossingWords$Court", "markNeeded", "(LCrossingWords$Case;I)Z"⟩, 11) := ⟨⟨by decide +kernel, by decide +kernel⟩, List.mem_of_getElem? (i := 128) (by decide +kernel), List.mem_of_getElem? (i := 645) (by decide +kernel), List.mem_of_getElem? (i := 646) (by decide +kernel)⟩
theorem lw_p15 : lw_okq (⟨"CrossingWords$Court", "markGivens", "(LCrossingWords$Case;)Z"⟩, 11) := ⟨⟨by decide +kernel, by decide +kernel⟩, List.mem_of_getElem? (i := 128) (by decide +kernel), List.mem_of_getElem? (i := 649) (by decide +kernel), List.mem_of_getElem? (i := 650) (by decide +kernel)⟩
def lw_privs_1 : List (MethodName × Nat) := [(⟨"CrossingWords$CaseReader", "readSaying", "(I)V"⟩, 3), (⟨"CrossingWords$CaseReader", "readOther", "(I)V"⟩, 3), (⟨"CrossingWords$CaseReader", "readSaid", "(II)V"⟩, 3), (⟨"CrossingWords$CaseReader", "fits", "(III)Z"⟩, 3), (⟨"CrossingWords$CaseReader", "readTerms", "(I)V"⟩, 3), (⟨"CrossingWords$CaseReader", "readWords", "(I)V"⟩, 3), (⟨"CrossingWords$CaseReader", "readBut", "(I)V"⟩, 3), (⟨"CrossingWords$CaseReader", "readTimes", "(I)V"⟩, 3), (⟨"CrossingWords$CaseReader", "readSpan", "(III)V"⟩, 3), (⟨"CrossingWords", "endReading", "()V"⟩, 9), (⟨"CrossingWords$LawReader", "readRule", "()V"⟩, 2), (⟨"CrossingWords$LawReader", "readYes", "()V"⟩, 2), (⟨"CrossingWords$Bench", "setHours", "(II)V"⟩, 16), (⟨"CrossingWords$Court", "learnGivens", "(LCrossingWords$Case;I[II)V"⟩, 11), (⟨"CrossingWords$Court", "markNeeded", "(LCrossingWords$Case;I)Z"⟩, 11), (⟨"CrossingWords$Court", "markGivens", "(LCrossingWords$Case;)Z"⟩, 11)]
theorem lw_r1 : ∀ q ∈ lw_privs_1, lw_okq q := List.forall_mem_cons.mpr ⟨lw_p0, List.forall_mem_cons.mpr ⟨lw_p1, List.forall_mem_cons.mpr ⟨lw_p2, List.forall_mem_cons.mpr ⟨lw_p3, List.forall_mem_cons.mpr ⟨lw_p4, List.forall_mem_cons.mpr ⟨lw_p5, List.forall_mem_cons.mpr ⟨lw_p6, List.forall_mem_cons.mpr ⟨lw_p7, List.forall_mem_cons.mpr ⟨lw_p8, List.forall_mem_cons.mpr ⟨lw_p9, List.forall_mem_cons.mpr ⟨lw_p10, List.forall_mem_cons.mpr ⟨lw_p11, List.forall_mem_cons.mpr ⟨lw_p12, List.forall_mem_cons.mpr ⟨lw_p13, List.forall_mem_cons.mpr ⟨lw_p14, List.forall_mem_cons.mpr ⟨lw_p15, fun _ h => absurd h List.not_mem_nil⟩⟩⟩⟩⟩⟩⟩⟩⟩⟩⟩⟩⟩⟩⟩⟩
theorem lw_p16 : lw_okq (⟨"CrossingWords$Bench", "openOffers", "()V"⟩, 16) := ⟨⟨by decide +kernel, by decide +kernel⟩, List.mem_of_getElem? (i := 184) (by decide +kernel), List.mem_of_getElem? (i := 662) (by decide +kernel), List.mem_of_getElem? (i := 663) (by decide +kernel)⟩
theorem lw_p17 : lw_okq (⟨"CrossingWords$Bench", "endAt", "(IIII)V"⟩, 16) := ⟨⟨by decide +kernel, by decide +kernel⟩, List.mem_of_getElem? (i := 184) (by decide +kernel), List.mem_of_getElem? (i := 667) (by decide +kernel), List.mem_of_getElem? (i := 668) (by decide +kernel)⟩
theorem lw_p18 : lw_okq (⟨"CrossingWords$Bench", "takeBack", "()V"⟩, 16) := ⟨⟨by decide +kernel, by decide +kernel⟩, List.mem_of_getElem? (i := 184) (by decide +kernel), List.mem_of_getElem? (i := 671) (by decide +kernel), List.mem_of_getElem? (i := 672) (by decide +kernel)⟩
theorem lw_p19 : lw_okq (⟨"CrossingWords$Bench", "freeFrom", "(I)I"⟩, 16) := ⟨⟨by decide +kernel, by decide +kernel⟩, List.mem_of_getElem? (i := 184) (by decide +kernel), List.mem_of_getElem? (i := 676) (by decide +kernel), List.mem_of_getElem? (i := 677) (by decide +kernel)⟩
theorem lw_p20 : lw_okq (⟨"CrossingWords$Bench", "hearAnswers", "()V"⟩, 16) := ⟨⟨by decide +kernel, by decide +kernel⟩, List.mem_of_getElem? (i := 184) (by decide +kernel), List.mem_of_getElem? (i := 680) (by decide +kernel), List.mem_of_getElem? (i := 681) (by decide +kernel)⟩
theorem lw_p21 : lw_okq (⟨"CrossingWords$Bench", "tryYeses", "()V"⟩, 16) := ⟨⟨by decide +kernel, by decide +kernel⟩, List.mem_of_getElem? (i := 184) (by decide +kernel), List.mem_of_getElem? (i := 684) (by decide +kernel), List.mem_of_getElem? (i := 685) (by decide +kernel)⟩
theorem lw_p22 : lw_okq (⟨"CrossingWords$Bench", "yesWhen", "(I)I"⟩, 16) := ⟨⟨by decide +kernel, by decide +kernel⟩, List.mem_of_getElem? (i := 184) (by decide +kernel), List.mem_of_getElem? (i := 688) (by decide +kernel), List.mem_of_getElem? (i := 689) (by decide +kernel)⟩
theorem lw_p23 : lw_okq (⟨"CrossingWords$Bench", "isOpenAt", "(II)Z"⟩, 16) := ⟨⟨by decide +kernel, by decide +kernel⟩, List.mem_of_getElem? (i := 184) (by decide +kernel), List.mem_of_getElem? (i := 692) (by decide +kernel), List.mem_of_getElem? (i := 693) (by decide +kernel)⟩
theorem lw_p24 : lw_okq (⟨"CrossingWords$Bench", "trySilence", "()V"⟩, 16) := ⟨⟨by decide +kernel, by decide +kernel⟩, List.mem_of_getElem? (i := 184) (by decide +kernel), List.mem_of_getElem? (i := 696) (by decide +kernel), List.mem_of_getElem? (i := 697) (by decide +kernel)⟩
theorem lw_p25 : lw_okq (⟨"CrossingWords$Court", "tallyBargain", "(I)V"⟩, 11) := ⟨⟨by decide +kernel, by decide +kernel⟩, List.mem_of_getElem? (i := 128) (by decide +kernel), List.mem_of_getElem? (i := 742) (by decide +kernel), List.mem_of_getElem? (i := 743) (by decide +kernel)⟩
theorem lw_p26 : lw_okq (⟨"CrossingWords$Court", "turnsAnswer", "(II)Z"⟩, 11) := ⟨⟨by decide +kernel, by decide +kernel⟩, List.mem_of_getElem? (i := 128) (by decide +kernel), List.mem_of_getElem? (i := 756) (by decide +kernel), List.mem_of_getElem? (i := 757) (by decide +kernel)⟩
theorem lw_p27 : lw_okq (⟨"CrossingWords$Bench", "riskPasses", "()I"⟩, 16) := ⟨⟨by decide +kernel, by decide +kernel⟩, List.mem_of_getElem? (i := 184) (by decide +kernel), List.mem_of_getElem? (i := 769) (by decide +kernel), List.mem_of_getElem? (i := 770) (by decide +kernel)⟩
theorem lw_p28 : lw_okq (⟨"CrossingWords$Court", "partsIn", "(I)Z"⟩, 11) := ⟨⟨by decide +kernel, by decide +kernel⟩, List.mem_of_getElem? (i := 128) (by decide +kernel), List.mem_of_getElem? (i := 789) (by decide +kernel), List.mem_of_getElem? (i := 790) (by decide +kernel)⟩
theorem lw_p29 : lw_okq (⟨"CrossingWords$Bench", "forestalls", "(II)Z"⟩, 16) := ⟨⟨by decide +kernel, by decide +kernel⟩, List.mem_of_getElem? (i := 184) (by decide +kernel), List.mem_of_getElem? (i := 830) (by decide +kernel), List.mem_of_getElem? (i := 831) (by decide +kernel)⟩
theorem lw_p30 : lw_okq (⟨"CrossingWords$Bench", "mayFrom", "(III)I"⟩, 16) := ⟨⟨by decide +kernel, by decide +kernel⟩, List.mem_of_getElem? (i := 184) (by decide +kernel), List.mem_of_getElem? (i := 845) (by decide +kernel), List.mem_of_getElem? (i := 846) (by decide +kernel)⟩
theorem lw_p31 : lw_okq (⟨"CrossingWords$Bench", "mayTo", "(I)I"⟩, 16) := ⟨⟨by decide +kernel, by decide +kernel⟩, List.mem_of_getElem? (i := 184) (by decide +kernel), List.mem_of_getElem? (i := 850) (by decide +kernel), List.mem_of_getElem? (i := 851) (by decide +kernel)⟩
def lw_privs_2 : List (MethodName × Nat) := [(⟨"CrossingWords$Bench", "openOffers", "()V"⟩, 16), (⟨"CrossingWords$Bench", "endAt", "(IIII)V"⟩, 16), (⟨"CrossingWords$Bench", "takeBack", "()V"⟩, 16), (⟨"CrossingWords$Bench", "freeFrom", "(I)I"⟩, 16), (⟨"CrossingWords$Bench", "hearAnswers", "()V"⟩, 16), (⟨"CrossingWords$Bench", "tryYeses", "()V"⟩, 16), (⟨"CrossingWords$Bench", "yesWhen", "(I)I"⟩, 16), (⟨"CrossingWords$Bench", "isOpenAt", "(II)Z"⟩, 16), (⟨"CrossingWords$Bench", "trySilence", "()V"⟩, 16), (⟨"CrossingWords$Court", "tallyBargain", "(I)V"⟩, 11), (⟨"CrossingWords$Court", "turnsAnswer", "(II)Z"⟩, 11), (⟨"CrossingWords$Bench", "riskPasses", "()I"⟩, 16), (⟨"CrossingWords$Court", "partsIn", "(I)Z"⟩, 11), (⟨"CrossingWords$Bench", "forestalls", "(II)Z"⟩, 16), (⟨"CrossingWords$Bench", "mayFrom", "(III)I"⟩, 16), (⟨"CrossingWords$Bench", "mayTo", "(I)I"⟩, 16)]
theorem lw_r2 : ∀ q ∈ lw_privs_2, lw_okq q := List.forall_mem_cons.mpr ⟨lw_p16, List.forall_mem_cons.mpr ⟨lw_p17, List.forall_mem_cons.mpr ⟨lw_p18, List.forall_mem_cons.mpr ⟨lw_p19, List.forall_mem_cons.mpr ⟨lw_p20, List.forall_mem_cons.mpr ⟨lw_p21, List.forall_mem_cons.mpr ⟨lw_p22, List.forall_mem_cons.mpr ⟨lw_p23, List.forall_mem_cons.mpr ⟨lw_p24, List.forall_mem_cons.mpr ⟨lw_p25, List.forall_mem_cons.mpr ⟨lw_p26, List.forall_mem_cons.mpr ⟨lw_p27, List.forall_mem_cons.mpr ⟨lw_p28, List.forall_mem_cons.mpr ⟨lw_p29, List.forall_mem_cons.mpr ⟨lw_p30, List.forall_mem_cons.mpr ⟨lw_p31, fun _ h => absurd h List.not_mem_nil⟩⟩⟩⟩⟩⟩⟩⟩⟩⟩⟩⟩⟩⟩⟩⟩
theorem lw_p32 : lw_okq (⟨"CrossingWords", "countChanged", "(LCrossingWords$Case;II)I"⟩, 9) := ⟨⟨by decide +kernel, by decide +kernel⟩, List.mem_of_getElem? (i := 19) (by decide +kernel), List.mem_of_getElem? (i := 874) (by decide +kernel), List.mem_of_getElem? (i := 875) (by decide +kernel)⟩
theorem lw_p33 : lw_okq (⟨"CrossingWordsModel", "begins", "(I)V"⟩, 63) := ⟨⟨by decide +kernel, by decide +kernel⟩, List.mem_of_getElem? (i := 909) (by decide +kernel), List.mem_of_getElem? (i := 1113) (by decide +kernel), List.mem_of_getElem? (i := 1114) (by decide +kernel)⟩
theorem lw_p34 : lw_okq (⟨"CrossingWordsModel", "next", "()V"⟩, 63) := ⟨⟨by decide +kernel, by decide +kernel⟩, List.mem_of_getElem? (i := 909) (by decide +kernel), List.mem_of_getElem? (i := 1117) (by decide +kernel), List.mem_of_getElem? (i := 1118) (by decide +kernel)⟩
theorem lw_p35 : lw_okq (⟨"CrossingWordsModel", "here", "()I"⟩, 63) := ⟨⟨by decide +kernel, by decide +kernel⟩, List.mem_of_getElem? (i := 909) (by decide +kernel), List.mem_of_getElem? (i := 1121) (by decide +kernel), List.mem_of_getElem? (i := 1122) (by decide +kernel)⟩
theorem lw_p36 : lw_okq (⟨"CrossingWordsModel", "readSayings", "(II)I"⟩, 63) := ⟨⟨by decide +kernel, by decide +kernel⟩, List.mem_of_getElem? (i := 909) (by decide +kernel), List.mem_of_getElem? (i := 1131) (by decide +kernel), List.mem_of_getElem? (i := 1132) (by decide +kernel)⟩
theorem lw_p37 : lw_okq (⟨"CrossingWordsModel", "errs", "()V"⟩, 63) := ⟨⟨by decide +kernel, by decide +kernel⟩, List.mem_of_getElem? (i := 909) (by decide +kernel), List.mem_of_getElem? (i := 1135) (by decide +kernel), List.mem_of_getElem? (i := 1136) (by decide +kernel)⟩
theorem lw_p38 : lw_okq (⟨"CrossingWordsModel", "readSaying", "(II)V"⟩, 63) := ⟨⟨by decide +kernel, by decide +kernel⟩, List.mem_of_getElem? (i := 909) (by decide +kernel), List.mem_of_getElem? (i := 1139) (by decide +kernel), List.mem_of_getElem? (i := 1140) (by decide +kernel)⟩
theorem lw_p39 : lw_okq (⟨"CrossingWordsModel", "whatHere", "()I"⟩, 63) := ⟨⟨by decide +kernel, by decide +kernel⟩, List.mem_of_getElem? (i := 909) (by decide +kernel), List.mem_of_getElem? (i := 1143) (by decide +kernel), List.mem_of_getElem? (i := 1144) (by decide +kernel)⟩
theorem lw_p40 : lw_okq (⟨"CrossingWordsModel", "handHere", "(I)I"⟩, 63) := ⟨⟨by decide +kernel, by decide +kernel⟩, List.mem_of_getElem? (i := 909) (by decide +kernel), List.mem_of_getElem? (i := 1154) (by decide +kernel), List.mem_of_getElem? (i := 1155) (by decide +kernel)⟩
theorem lw_p41 : lw_okq (⟨"CrossingWordsModel", "saidHere", "(IIII)I"⟩, 63) := ⟨⟨by decide +kernel, by decide +kernel⟩, List.mem_of_getElem? (i := 909) (by decide +kernel), List.mem_of_getElem? (i := 1159) (by decide +kernel), List.mem_of_getElem? (i := 1160) (by decide +kernel)⟩
theorem lw_p42 : lw_okq (⟨"CrossingWordsModel", "isOffer", "(I)Z"⟩, 63) := ⟨⟨by decide +kernel, by decide +kernel⟩, List.mem_of_getElem? (i := 909) (by decide +kernel), List.mem_of_getElem? (i := 1163) (by decide +kernel), List.mem_of_getElem? (i := 1164) (by decide +kernel)⟩
theorem lw_p43 : lw_okq (⟨"CrossingWordsModel", "words", "(IZ)V"⟩, 63) := ⟨⟨by decide +kernel, by decide +kernel⟩, List.mem_of_getElem? (i := 909) (by decide +kernel), List.mem_of_getElem? (i := 1167) (by decide +kernel), List.mem_of_getElem? (i := 1168) (by decide +kernel)⟩
theorem lw_p44 : lw_okq (⟨"CrossingWordsModel", "wordHere", "()I"⟩, 63) := ⟨⟨by decide +kernel, by decide +kernel⟩, List.mem_of_getElem? (i := 909) (by decide +kernel), List.mem_of_getElem? (i := 1171) (by decide +kernel), List.mem_of_getElem? (i := 1172) (by decide +kernel)⟩
theorem lw_p45 : lw_okq (⟨"CrossingWordsModel", "numeral", "(II)I"⟩, 63) := ⟨⟨by decide +kernel, by decide +kernel⟩, List.mem_of_getElem? (i := 909) (by decide +kernel), List.mem_of_getElem? (i := 1180) (by decide +kernel), List.mem_of_getElem? (i := 1181) (by decide +kernel)⟩
theorem lw_p46 : lw_okq (⟨"CrossingWordsModel", "is", "(J)Z"⟩, 63) := ⟨⟨by decide +kernel, by decide +kernel⟩, List.mem_of_getElem? (i := 909) (by decide +kernel), List.mem_of_getElem? (i := 1185) (by decide +kernel), List.mem_of_getElem? (i := 1186) (by decide +kernel)⟩
theorem lw_p47 : lw_okq (⟨"CrossingWordsModel", "times", "(I)V"⟩, 63) := ⟨⟨by decide +kernel, by decide +kernel⟩, List.mem_of_getElem? (i := 909) (by decide +kernel), List.mem_of_getElem? (i := 1191) (by decide +kernel), List.mem_of_getElem? (i := 1192) (by decide +kernel)⟩
def lw_privs_3 : List (MethodName × Nat) := [(⟨"CrossingWords", "countChanged", "(LCrossingWords$Case;II)I"⟩, 9), (⟨"CrossingWordsModel", "begins", "(I)V"⟩, 63), (⟨"CrossingWordsModel", "next", "()V"⟩, 63), (⟨"CrossingWordsModel", "here", "()I"⟩, 63), (⟨"CrossingWordsModel", "readSayings", "(II)I"⟩, 63), (⟨"CrossingWordsModel", "errs", "()V"⟩, 63), (⟨"CrossingWordsModel", "readSaying", "(II)V"⟩, 63), (⟨"CrossingWordsModel", "whatHere", "()I"⟩, 63), (⟨"CrossingWordsModel", "handHere", "(I)I"⟩, 63), (⟨"CrossingWordsModel", "saidHere", "(IIII)I"⟩, 63), (⟨"CrossingWordsModel", "isOffer", "(I)Z"⟩, 63), (⟨"CrossingWordsModel", "words", "(IZ)V"⟩, 63), (⟨"CrossingWordsModel", "wordHere", "()I"⟩, 63), (⟨"CrossingWordsModel", "numeral", "(II)I"⟩, 63), (⟨"CrossingWordsModel", "is", "(J)Z"⟩, 63), (⟨"CrossingWordsModel", "times", "(I)V"⟩, 63)]
theorem lw_r3 : ∀ q ∈ lw_privs_3, lw_okq q := List.forall_mem_cons.mpr ⟨lw_p32, List.forall_mem_cons.mpr ⟨lw_p33, List.forall_mem_cons.mpr ⟨lw_p34, List.forall_mem_cons.mpr ⟨lw_p35, List.forall_mem_cons.mpr ⟨lw_p36, List.forall_mem_cons.mpr ⟨lw_p37, List.forall_mem_cons.mpr ⟨lw_p38, List.forall_mem_cons.mpr ⟨lw_p39, List.forall_mem_cons.mpr ⟨lw_p40, List.forall_mem_cons.mpr ⟨lw_p41, List.forall_mem_cons.mpr ⟨lw_p42, List.forall_mem_cons.mpr ⟨lw_p43, List.forall_mem_cons.mpr ⟨lw_p44, List.forall_mem_cons.mpr ⟨lw_p45, List.forall_mem_cons.mpr ⟨lw_p46, List.forall_mem_cons.mpr ⟨lw_p47, fun _ h => absurd h List.not_mem_nil⟩⟩⟩⟩⟩⟩⟩⟩⟩⟩⟩⟩⟩⟩⟩⟩
theorem lw_p48 : lw_okq (⟨"CrossingWordsModel", "wayHere", "()I"⟩, 63) := ⟨⟨by decide +kernel, by decide +kernel⟩, List.mem_of_getElem? (i := 909) (by decide +kernel), List.mem_of_getElem? (i := 1195) (by decide +kernel), List.mem_of_getElem? (i := 1196) (by decide +kernel)⟩
theorem lw_p49 : lw_okq (⟨"CrossingWordsModel", "mustBe", "(J)V"⟩, 63) := ⟨⟨by decide +kernel, by decide +kernel⟩, List.mem_of_getElem? (i := 909) (by decide +kernel), List.mem_of_getElem? (i := 1203) (by decide +kernel), List.mem_of_getElem? (i := 1204) (by decide +kernel)⟩
theorem lw_p50 : lw_okq (⟨"CrossingWordsModel", "span", "(III)V"⟩, 63) := ⟨⟨by decide +kernel, by decide +kernel⟩, List.mem_of_getElem? (i := 909) (by decide +kernel), List.mem_of_getElem? (i := 1207) (by decide +kernel), List.mem_of_getElem? (i := 1208) (by decide +kernel)⟩
theorem lw_p51 : lw_okq (⟨"CrossingWordsModel", "ends", "()V"⟩, 63) := ⟨⟨by decide +kernel, by decide +kernel⟩, List.mem_of_getElem? (i := 909) (by decide +kernel), List.mem_of_getElem? (i := 1215) (by decide +kernel), List.mem_of_getElem? (i := 1216) (by decide +kernel)⟩
theorem lw_p52 : lw_okq (⟨"CrossingWordsModel", "isCase", "(I)Z"⟩, 63) := ⟨⟨by decide +kernel, by decide +kernel⟩, List.mem_of_getElem? (i := 909) (by decide +kernel), List.mem_of_getElem? (i := 1223) (by decide +kernel), List.mem_of_getElem? (i := 1224) (by decide +kernel)⟩
theorem lw_p53 : lw_okq (⟨"CrossingWordsModel", "readRules", "(I)Z"⟩, 63) := ⟨⟨by decide +kernel, by decide +kernel⟩, List.mem_of_getElem? (i := 909) (by decide +kernel), List.mem_of_getElem? (i := 1231) (by decide +kernel), List.mem_of_getElem? (i := 1232) (by decide +kernel)⟩
theorem lw_p54 : lw_okq (⟨"CrossingWordsModel", "readRule", "(I)V"⟩, 63) := ⟨⟨by decide +kernel, by decide +kernel⟩, List.mem_of_getElem? (i := 909) (by decide +kernel), List.mem_of_getElem? (i := 1235) (by decide +kernel), List.mem_of_getElem? (i := 1236) (by decide +kernel)⟩
theorem lw_p55 : lw_okq (⟨"CrossingWordsModel", "one", "(JJJ)I"⟩, 63) := ⟨⟨by decide +kernel, by decide +kernel⟩, List.mem_of_getElem? (i := 909) (by decide +kernel), List.mem_of_getElem? (i := 1240) (by decide +kernel), List.mem_of_getElem? (i := 1241) (by decide +kernel)⟩
theorem lw_p56 : lw_okq (⟨"CrossingWordsModel", "whenHere", "()I"⟩, 63) := ⟨⟨by decide +kernel, by decide +kernel⟩, List.mem_of_getElem? (i := 909) (by decide +kernel), List.mem_of_getElem? (i := 1244) (by decide +kernel), List.mem_of_getElem? (i := 1245) (by decide +kernel)⟩
theorem lw_p57 : lw_okq (⟨"CrossingWordsModel", "isLaw", "(I)Z"⟩, 63) := ⟨⟨by decide +kernel, by decide +kernel⟩, List.mem_of_getElem? (i := 909) (by decide +kernel), List.mem_of_getElem? (i := 1274) (by decide +kernel), List.mem_of_getElem? (i := 1275) (by decide +kernel)⟩
theorem lw_p58 : lw_okq (⟨"CrossingWordsModel", "lays", "(II)V"⟩, 63) := ⟨⟨by decide +kernel, by decide +kernel⟩, List.mem_of_getElem? (i := 909) (by decide +kernel), List.mem_of_getElem? (i := 1278) (by decide +kernel), List.mem_of_getElem? (i := 1279) (by decide +kernel)⟩
theorem lw_p59 : lw_okq (⟨"CrossingWordsModel", "bringPlain", "(I)V"⟩, 63) := ⟨⟨by decide +kernel, by decide +kernel⟩, List.mem_of_getElem? (i := 909) (by decide +kernel), List.mem_of_getElem? (i := 1290) (by decide +kernel), List.mem_of_getElem? (i := 1291) (by decide +kernel)⟩
theorem lw_p60 : lw_okq (⟨"CrossingWordsModel", "bring", "(I)V"⟩, 63) := ⟨⟨by decide +kernel, by decide +kernel⟩, List.mem_of_getElem? (i := 909) (by decide +kernel), List.mem_of_getElem? (i := 1294) (by decide +kernel), List.mem_of_getElem? (i := 1295) (by decide +kernel)⟩
theorem lw_p61 : lw_okq (⟨"CrossingWordsModel", "findAsked", "()V"⟩, 63) := ⟨⟨by decide +kernel, by decide +kernel⟩, List.mem_of_getElem? (i := 909) (by decide +kernel), List.mem_of_getElem? (i := 1298) (by decide +kernel), List.mem_of_getElem? (i := 1299) (by decide +kernel)⟩
theorem lw_p62 : lw_okq (⟨"CrossingWordsModel", "isLooked", "()Z"⟩, 63) := ⟨⟨by decide +kernel, by decide +kernel⟩, List.mem_of_getElem? (i := 909) (by decide +kernel), List.mem_of_getElem? (i := 1302) (by decide +kernel), List.mem_of_getElem? (i := 1303) (by decide +kernel)⟩
theorem lw_p63 : lw_okq (⟨"CrossingWordsModel", "hours", "(I)V"⟩, 63) := ⟨⟨by decide +kernel, by decide +kernel⟩, List.mem_of_getElem? (i := 909) (by decide +kernel), List.mem_of_getElem? (i := 1310) (by decide +kernel), List.mem_of_getElem? (i := 1311) (by decide +kernel)⟩
def lw_privs_4 : List (MethodName × Nat) := [(⟨"CrossingWordsModel", "wayHere", "()I"⟩, 63), (⟨"CrossingWordsModel", "mustBe", "(J)V"⟩, 63), (⟨"CrossingWordsModel", "span", "(III)V"⟩, 63), (⟨"CrossingWordsModel", "ends", "()V"⟩, 63), (⟨"CrossingWordsModel", "isCase", "(I)Z"⟩, 63), (⟨"CrossingWordsModel", "readRules", "(I)Z"⟩, 63), (⟨"CrossingWordsModel", "readRule", "(I)V"⟩, 63), (⟨"CrossingWordsModel", "one", "(JJJ)I"⟩, 63), (⟨"CrossingWordsModel", "whenHere", "()I"⟩, 63), (⟨"CrossingWordsModel", "isLaw", "(I)Z"⟩, 63), (⟨"CrossingWordsModel", "lays", "(II)V"⟩, 63), (⟨"CrossingWordsModel", "bringPlain", "(I)V"⟩, 63), (⟨"CrossingWordsModel", "bring", "(I)V"⟩, 63), (⟨"CrossingWordsModel", "findAsked", "()V"⟩, 63), (⟨"CrossingWordsModel", "isLooked", "()Z"⟩, 63), (⟨"CrossingWordsModel", "hours", "(I)V"⟩, 63)]
theorem lw_r4 : ∀ q ∈ lw_privs_4, lw_okq q := List.forall_mem_cons.mpr ⟨lw_p48, List.forall_mem_cons.mpr ⟨lw_p49, List.forall_mem_cons.mpr ⟨lw_p50, List.forall_mem_cons.mpr ⟨lw_p51, List.forall_mem_cons.mpr ⟨lw_p52, List.forall_mem_cons.mpr ⟨lw_p53, List.forall_mem_cons.mpr ⟨lw_p54, List.forall_mem_cons.mpr ⟨lw_p55, List.forall_mem_cons.mpr ⟨lw_p56, List.forall_mem_cons.mpr ⟨lw_p57, List.forall_mem_cons.mpr ⟨lw_p58, List.forall_mem_cons.mpr ⟨lw_p59, List.forall_mem_cons.mpr ⟨lw_p60, List.forall_mem_cons.mpr ⟨lw_p61, List.forall_mem_cons.mpr ⟨lw_p62, List.forall_mem_cons.mpr ⟨lw_p63, fun _ h => absurd h List.not_mem_nil⟩⟩⟩⟩⟩⟩⟩⟩⟩⟩⟩⟩⟩⟩⟩⟩
theorem lw_p64 : lw_okq (⟨"CrossingWordsModel", "when", "(II)I"⟩, 63) := ⟨⟨by decide +kernel, by decide +kernel⟩, List.mem_of_getElem? (i := 909) (by decide +kernel), List.mem_of_getElem? (i := 1314) (by decide +kernel), List.mem_of_getElem? (i := 1315) (by decide +kernel)⟩
theorem lw_p65 : lw_okq (⟨"CrossingWordsModel", "looksAt", "(III)Z"⟩, 63) := ⟨⟨by decide +kernel, by decide +kernel⟩, List.mem_of_getElem? (i := 909) (by decide +kernel), List.mem_of_getElem? (i := 1322) (by decide +kernel), List.mem_of_getElem? (i := 1323) (by decide +kernel)⟩
theorem lw_p66 : lw_okq (⟨"CrossingWordsModel", "takes", "(I)V"⟩, 63) := ⟨⟨by decide +kernel, by decide +kernel⟩, List.mem_of_getElem? (i := 909) (by decide +kernel), List.mem_of_getElem? (i := 1326) (by decide +kernel), List.mem_of_getElem? (i := 1327) (by decide +kernel)⟩
theorem lw_p67 : lw_okq (⟨"CrossingWordsModel", "isSureNow", "()Z"⟩, 63) := ⟨⟨by decide +kernel, by decide +kernel⟩, List.mem_of_getElem? (i := 909) (by decide +kernel), List.mem_of_getElem? (i := 1330) (by decide +kernel), List.mem_of_getElem? (i := 1331) (by decide +kernel)⟩
theorem lw_p68 : lw_okq (⟨"CrossingWordsModel", "looks", "(I)V"⟩, 63) := ⟨⟨by decide +kernel, by decide +kernel⟩, List.mem_of_getElem? (i := 909) (by decide +kernel), List.mem_of_getElem? (i := 1334) (by decide +kernel), List.mem_of_getElem? (i := 1335) (by decide +kernel)⟩
theorem lw_p69 : lw_okq (⟨"CrossingWordsModel", "findOffers", "()V"⟩, 63) := ⟨⟨by decide +kernel, by decide +kernel⟩, List.mem_of_getElem? (i := 909) (by decide +kernel), List.mem_of_getElem? (i := 1338) (by decide +kernel), List.mem_of_getElem? (i := 1339) (by decide +kernel)⟩
theorem lw_p70 : lw_okq (⟨"CrossingWordsModel", "isOffering", "(I)Z"⟩, 63) := ⟨⟨by decide +kernel, by decide +kernel⟩, List.mem_of_getElem? (i := 909) (by decide +kernel), List.mem_of_getElem? (i := 1342) (by decide +kernel), List.mem_of_getElem? (i := 1343) (by decide +kernel)⟩
theorem lw_p71 : lw_okq (⟨"CrossingWordsModel", "isSmall", "(I)Z"⟩, 63) := ⟨⟨by decide +kernel, by decide +kernel⟩, List.mem_of_getElem? (i := 909) (by decide +kernel), List.mem_of_getElem? (i := 1346) (by decide +kernel), List.mem_of_getElem? (i := 1347) (by decide +kernel)⟩
theorem lw_p72 : lw_okq (⟨"CrossingWordsModel", "backHour", "(II)I"⟩, 63) := ⟨⟨by decide +kernel, by decide +kernel⟩, List.mem_of_getElem? (i := 909) (by decide +kernel), List.mem_of_getElem? (i := 1350) (by decide +kernel), List.mem_of_getElem? (i := 1351) (by decide +kernel)⟩
theorem lw_p73 : lw_okq (⟨"CrossingWordsModel", "endsBy", "(III)V"⟩, 63) := ⟨⟨by decide +kernel, by decide +kernel⟩, List.mem_of_getElem? (i := 909) (by decide +kernel), List.mem_of_getElem? (i := 1354) (by decide +kernel), List.mem_of_getElem? (i := 1355) (by decide +kernel)⟩
theorem lw_p74 : lw_okq (⟨"CrossingWordsModel", "noHour", "(II)I"⟩, 63) := ⟨⟨by decide +kernel, by decide +kernel⟩, List.mem_of_getElem? (i := 909) (by decide +kernel), List.mem_of_getElem? (i := 1358) (by decide +kernel), List.mem_of_getElem? (i := 1359) (by decide +kernel)⟩
theorem lw_p75 : lw_okq (⟨"CrossingWordsModel", "isNo", "(I)Z"⟩, 63) := ⟨⟨by decide +kernel, by decide +kernel⟩, List.mem_of_getElem? (i := 909) (by decide +kernel), List.mem_of_getElem? (i := 1362) (by decide +kernel), List.mem_of_getElem? (i := 1363) (by decide +kernel)⟩
theorem lw_p76 : lw_okq (⟨"CrossingWordsModel", "findBargain", "()V"⟩, 63) := ⟨⟨by decide +kernel, by decide +kernel⟩, List.mem_of_getElem? (i := 909) (by decide +kernel), List.mem_of_getElem? (i := 1366) (by decide +kernel), List.mem_of_getElem? (i := 1367) (by decide +kernel)⟩
theorem lw_p77 : lw_okq (⟨"CrossingWordsModel", "isYes", "(I)Z"⟩, 63) := ⟨⟨by decide +kernel, by decide +kernel⟩, List.mem_of_getElem? (i := 909) (by decide +kernel), List.mem_of_getElem? (i := 1370) (by decide +kernel), List.mem_of_getElem? (i := 1371) (by decide +kernel)⟩
theorem lw_p78 : lw_okq (⟨"CrossingWordsModel", "yesHour", "(I)I"⟩, 63) := ⟨⟨by decide +kernel, by decide +kernel⟩, List.mem_of_getElem? (i := 909) (by decide +kernel), List.mem_of_getElem? (i := 1374) (by decide +kernel), List.mem_of_getElem? (i := 1375) (by decide +kernel)⟩
theorem lw_p79 : lw_okq (⟨"CrossingWordsModel", "isTakenBack", "(II)Z"⟩, 63) := ⟨⟨by decide +kernel, by decide +kernel⟩, List.mem_of_getElem? (i := 909) (by decide +kernel), List.mem_of_getElem? (i := 1378) (by decide +kernel), List.mem_of_getElem? (i := 1379) (by decide +kernel)⟩
def lw_privs_5 : List (MethodName × Nat) := [(⟨"CrossingWordsModel", "when", "(II)I"⟩, 63), (⟨"CrossingWordsModel", "looksAt", "(III)Z"⟩, 63), (⟨"CrossingWordsModel", "takes", "(I)V"⟩, 63), (⟨"CrossingWordsModel", "isSureNow", "()Z"⟩, 63), (⟨"CrossingWordsModel", "looks", "(I)V"⟩, 63), (⟨"CrossingWordsModel", "findOffers", "()V"⟩, 63), (⟨"CrossingWordsModel", "isOffering", "(I)Z"⟩, 63), (⟨"CrossingWordsModel", "isSmall", "(I)Z"⟩, 63), (⟨"CrossingWordsModel", "backHour", "(II)I"⟩, 63), (⟨"CrossingWordsModel", "endsBy", "(III)V"⟩, 63), (⟨"CrossingWordsModel", "noHour", "(II)I"⟩, 63), (⟨"CrossingWordsModel", "isNo", "(I)Z"⟩, 63), (⟨"CrossingWordsModel", "findBargain", "()V"⟩, 63), (⟨"CrossingWordsModel", "isYes", "(I)Z"⟩, 63), (⟨"CrossingWordsModel", "yesHour", "(I)I"⟩, 63), (⟨"CrossingWordsModel", "isTakenBack", "(II)Z"⟩, 63)]
theorem lw_r5 : ∀ q ∈ lw_privs_5, lw_okq q := List.forall_mem_cons.mpr ⟨lw_p64, List.forall_mem_cons.mpr ⟨lw_p65, List.forall_mem_cons.mpr ⟨lw_p66, List.forall_mem_cons.mpr ⟨lw_p67, List.forall_mem_cons.mpr ⟨lw_p68, List.forall_mem_cons.mpr ⟨lw_p69, List.forall_mem_cons.mpr ⟨lw_p70, List.forall_mem_cons.mpr ⟨lw_p71, List.forall_mem_cons.mpr ⟨lw_p72, List.forall_mem_cons.mpr ⟨lw_p73, List.forall_mem_cons.mpr ⟨lw_p74, List.forall_mem_cons.mpr ⟨lw_p75, List.forall_mem_cons.mpr ⟨lw_p76, List.forall_mem_cons.mpr ⟨lw_p77, List.forall_mem_cons.mpr ⟨lw_p78, List.forall_mem_cons.mpr ⟨lw_p79, fun _ h => absurd h List.not_mem_nil⟩⟩⟩⟩⟩⟩⟩⟩⟩⟩⟩⟩⟩⟩⟩⟩
theorem lw_p80 : lw_okq (⟨"CrossingWordsModel", "isOpenAt", "(II)Z"⟩, 63) := ⟨⟨by decide +kernel, by decide +kernel⟩, List.mem_of_getElem? (i := 909) (by decide +kernel), List.mem_of_getElem? (i := 1382) (by decide +kernel), List.mem_of_getElem? (i := 1383) (by decide +kernel)⟩
theorem lw_p81 : lw_okq (⟨"CrossingWordsModel", "offersTo", "(III)V"⟩, 63) := ⟨⟨by decide +kernel, by decide +kernel⟩, List.mem_of_getElem? (i := 909) (by decide +kernel), List.mem_of_getElem? (i := 1386) (by decide +kernel), List.mem_of_getElem? (i := 1387) (by decide +kernel)⟩
theorem lw_p82 : lw_okq (⟨"CrossingWordsModel", "isAnswered", "(II)Z"⟩, 63) := ⟨⟨by decide +kernel, by decide +kernel⟩, List.mem_of_getElem? (i := 909) (by decide +kernel), List.mem_of_getElem? (i := 1390) (by decide +kernel), List.mem_of_getElem? (i := 1391) (by decide +kernel)⟩
theorem lw_p83 : lw_okq (⟨"CrossingWordsModel", "bargainWord", "(I)I"⟩, 63) := ⟨⟨by decide +kernel, by decide +kernel⟩, List.mem_of_getElem? (i := 909) (by decide +kernel), List.mem_of_getElem? (i := 1394) (by decide +kernel), List.mem_of_getElem? (i := 1395) (by decide +kernel)⟩
theorem lw_p84 : lw_okq (⟨"CrossingWordsModel", "wordOf", "(II)I"⟩, 63) := ⟨⟨by decide +kernel, by decide +kernel⟩, List.mem_of_getElem? (i := 909) (by decide +kernel), List.mem_of_getElem? (i := 1398) (by decide +kernel), List.mem_of_getElem? (i := 1399) (by decide +kernel)⟩
theorem lw_p85 : lw_okq (⟨"CrossingWordsModel", "tells", "(I)Z"⟩, 63) := ⟨⟨by decide +kernel, by decide +kernel⟩, List.mem_of_getElem? (i := 909) (by decide +kernel), List.mem_of_getElem? (i := 1421) (by decide +kernel), List.mem_of_getElem? (i := 1422) (by decide +kernel)⟩
theorem lw_p86 : lw_okq (⟨"CrossingWordsModel", "known", "(II)I"⟩, 63) := ⟨⟨by decide +kernel, by decide +kernel⟩, List.mem_of_getElem? (i := 909) (by decide +kernel), List.mem_of_getElem? (i := 1425) (by decide +kernel), List.mem_of_getElem? (i := 1426) (by decide +kernel)⟩
theorem lw_p87 : lw_okq (⟨"CrossingWordsModel", "findApart", "(III)Z"⟩, 63) := ⟨⟨by decide +kernel, by decide +kernel⟩, List.mem_of_getElem? (i := 909) (by decide +kernel), List.mem_of_getElem? (i := 1441) (by decide +kernel), List.mem_of_getElem? (i := 1442) (by decide +kernel)⟩
theorem lw_p88 : lw_okq (⟨"CrossingWordsModel", "isWritten", "(II)Z"⟩, 63) := ⟨⟨by decide +kernel, by decide +kernel⟩, List.mem_of_getElem? (i := 909) (by decide +kernel), List.mem_of_getElem? (i := 1453) (by decide +kernel), List.mem_of_getElem? (i := 1454) (by decide +kernel)⟩
theorem lw_p89 : lw_okq (⟨"CrossingWordsModel", "canAt", "(II)I"⟩, 63) := ⟨⟨by decide +kernel, by decide +kernel⟩, List.mem_of_getElem? (i := 909) (by decide +kernel), List.mem_of_getElem? (i := 1465) (by decide +kernel), List.mem_of_getElem? (i := 1466) (by decide +kernel)⟩
theorem lw_p90 : lw_okq (⟨"CrossingWordsModel", "isSaid", "(III)Z"⟩, 63) := ⟨⟨by decide +kernel, by decide +kernel⟩, List.mem_of_getElem? (i := 909) (by decide +kernel), List.mem_of_getElem? (i := 1477) (by decide +kernel), List.mem_of_getElem? (i := 1478) (by decide +kernel)⟩
theorem lw_p91 : lw_okq (⟨"CrossingWordsModel", "withBargain", "()I"⟩, 63) := ⟨⟨by decide +kernel, by decide +kernel⟩, List.mem_of_getElem? (i := 909) (by decide +kernel), List.mem_of_getElem? (i := 1481) (by decide +kernel), List.mem_of_getElem? (i := 1482) (by decide +kernel)⟩
theorem lw_p92 : lw_okq (⟨"CrossingWordsModel", "copies", "(II)V"⟩, 63) := ⟨⟨by decide +kernel, by decide +kernel⟩, List.mem_of_getElem? (i := 909) (by decide +kernel), List.mem_of_getElem? (i := 1493) (by decide +kernel), List.mem_of_getElem? (i := 1494) (by decide +kernel)⟩
theorem lw_p93 : lw_okq (⟨"CrossingWordsModel", "sayingsInAll", "()I"⟩, 63) := ⟨⟨by decide +kernel, by decide +kernel⟩, List.mem_of_getElem? (i := 909) (by decide +kernel), List.mem_of_getElem? (i := 1505) (by decide +kernel), List.mem_of_getElem? (i := 1506) (by decide +kernel)⟩
def lw_privs_6 : List (MethodName × Nat) := [(⟨"CrossingWordsModel", "isOpenAt", "(II)Z"⟩, 63), (⟨"CrossingWordsModel", "offersTo", "(III)V"⟩, 63), (⟨"CrossingWordsModel", "isAnswered", "(II)Z"⟩, 63), (⟨"CrossingWordsModel", "bargainWord", "(I)I"⟩, 63), (⟨"CrossingWordsModel", "wordOf", "(II)I"⟩, 63), (⟨"CrossingWordsModel", "tells", "(I)Z"⟩, 63), (⟨"CrossingWordsModel", "known", "(II)I"⟩, 63), (⟨"CrossingWordsModel", "findApart", "(III)Z"⟩, 63), (⟨"CrossingWordsModel", "isWritten", "(II)Z"⟩, 63), (⟨"CrossingWordsModel", "canAt", "(II)I"⟩, 63), (⟨"CrossingWordsModel", "isSaid", "(III)Z"⟩, 63), (⟨"CrossingWordsModel", "withBargain", "()I"⟩, 63), (⟨"CrossingWordsModel", "copies", "(II)V"⟩, 63), (⟨"CrossingWordsModel", "sayingsInAll", "()I"⟩, 63)]
theorem lw_r6 : ∀ q ∈ lw_privs_6, lw_okq q := List.forall_mem_cons.mpr ⟨lw_p80, List.forall_mem_cons.mpr ⟨lw_p81, List.forall_mem_cons.mpr ⟨lw_p82, List.forall_mem_cons.mpr ⟨lw_p83, List.forall_mem_cons.mpr ⟨lw_p84, List.forall_mem_cons.mpr ⟨lw_p85, List.forall_mem_cons.mpr ⟨lw_p86, List.forall_mem_cons.mpr ⟨lw_p87, List.forall_mem_cons.mpr ⟨lw_p88, List.forall_mem_cons.mpr ⟨lw_p89, List.forall_mem_cons.mpr ⟨lw_p90, List.forall_mem_cons.mpr ⟨lw_p91, List.forall_mem_cons.mpr ⟨lw_p92, List.forall_mem_cons.mpr ⟨lw_p93, fun _ h => absurd h List.not_mem_nil⟩⟩⟩⟩⟩⟩⟩⟩⟩⟩⟩⟩⟩⟩
def lw_privs : List (MethodName × Nat) := lw_privs_1 ++ (lw_privs_2 ++ (lw_privs_3 ++ (lw_privs_4 ++ (lw_privs_5 ++ (lw_privs_6)))))
def lw_tbl : List Cond := k2_sels lw_privs ++ tables_1
theorem lw_privs_ok : ∀ q ∈ lw_privs, lw_okq q := by
  show ∀ q ∈ lw_privs_1 ++ (lw_privs_2 ++ (lw_privs_3 ++ (lw_privs_4 ++ (lw_privs_5 ++ (lw_privs_6))))), lw_okq q
  exact List.forall_mem_append.mpr ⟨lw_r1, List.forall_mem_append.mpr ⟨lw_r2, List.forall_mem_append.mpr ⟨lw_r3, List.forall_mem_append.mpr ⟨lw_r4, List.forall_mem_append.mpr ⟨lw_r5, lw_r6⟩⟩⟩⟩⟩
end
section
def RX0 : String := "CrossingWords$Bench"
def TX0 : u_T := fun k => match k with
  | 0 => ("CrossingWords$Bench", "hours", "[I", true)
  | 1 => ("CrossingWords$Bench", "turnHeard", "[I", true)
  | 2 => ("CrossingWords$Bench", "offers", "[Z", true)
  | 3 => ("CrossingWords$Bench", "yeses", "[Z", true)
  | 4 => ("CrossingWords$Bench", "inVain", "[Z", true)
  | 5 => ("CrossingWords$Bench", "from", "[I", true)
  | 6 => ("CrossingWords$Bench", "end", "[I", true)
  | 7 => ("CrossingWords$Bench", "why", "[I", true)
  | 8 => ("CrossingWords$Bench", "endedBy", "[I", true)
  | 9 => ("CrossingWords$Bench", "takenBackAt", "[I", true)
  | 10 => ("CrossingWords$Bench", "answeredAt", "[I", true)
  | 11 => ("CrossingWords$Bench", "rules", "[I", false)
  | 12 => ("CrossingWords$Bench", "tale", "LCrossingWords$Case;", false)
  | 13 => ("CrossingWords$Bench", "madeBy", "I", false)
  | 14 => ("CrossingWords$Bench", "madeOf", "I", false)
  | _ => ("CrossingWords$Bench", "madeAt", "I", false)
def tyX0 : Nat → FieldType := fun k => match k with
  | 0 => .array .int
  | 1 => .array .int
  | 2 => .array .boolean
  | 3 => .array .boolean
  | 4 => .array .boolean
  | 5 => .array .int
  | 6 => .array .int
  | 7 => .array .int
  | 8 => .array .int
  | 9 => .array .int
  | 10 => .array .int
  | 11 => .array .int
  | 12 => .object "CrossingWords$Case"
  | 13 => .int
  | 14 => .int
  | _ => .int
theorem nmX0 : ∀ a, a < 16 → ∀ b, b < 16 → a ≠ b → (TX0 a).2.1 ≠ (TX0 b).2.1 := by decide +kernel
theorem tyX0_ok : ∀ k, k < 16 → parseFieldDescriptor (TX0 k).2.2.1 = some (tyX0 k) := by decide +kernel
def RX1 : String := "CrossingWords$Case"
def TX1 : u_T := fun k => match k with
  | 0 => ("CrossingWords$Case", "cells", "[I", true)
  | 1 => ("CrossingWords$Case", "size", "I", true)
  | 2 => ("CrossingWords$Case", "askedOnes", "I", true)
  | _ => ("CrossingWords$Case", "combos", "I", true)
def tyX1 : Nat → FieldType := fun k => match k with
  | 0 => .array .int
  | 1 => .int
  | 2 => .int
  | _ => .int
theorem nmX1 : ∀ a, a < 4 → ∀ b, b < 4 → a ≠ b → (TX1 a).2.1 ≠ (TX1 b).2.1 := by decide +kernel
theorem tyX1_ok : ∀ k, k < 4 → parseFieldDescriptor (TX1 k).2.2.1 = some (tyX1 k) := by decide +kernel
def RX2 : String := "CrossingWords$CaseReader"
def TX2 : u_T := fun k => match k with
  | 0 => ("CrossingWords$CaseReader", "tape", "LCrossingWords$Tape;", true)
  | 1 => ("CrossingWords$CaseReader", "cells", "[I", true)
  | _ => ("CrossingWords$CaseReader", "casesAhead", "I", false)
def tyX2 : Nat → FieldType := fun k => match k with
  | 0 => .object "CrossingWords$Tape"
  | 1 => .array .int
  | _ => .int
theorem nmX2 : ∀ a, a < 3 → ∀ b, b < 3 → a ≠ b → (TX2 a).2.1 ≠ (TX2 b).2.1 := by decide +kernel
theorem tyX2_ok : ∀ k, k < 3 → parseFieldDescriptor (TX2 k).2.2.1 = some (tyX2 k) := by decide +kernel
def RX3 : String := "CrossingWords$Court"
def TX3 : u_T := fun k => match k with
  | 0 => ("CrossingWords$Court", "shelf", "LCrossingWords$Shelf;", true)
  | 1 => ("CrossingWords$Court", "bench", "LCrossingWords$Bench;", true)
  | 2 => ("CrossingWords$Court", "otherBench", "LCrossingWords$Bench;", true)
  | 3 => ("CrossingWords$Court", "givenBench", "LCrossingWords$Bench;", true)
  | 4 => ("CrossingWords$Court", "sureCases", "[I", true)
  | 5 => ("CrossingWords$Court", "needed", "[Z", true)
  | 6 => ("CrossingWords$Court", "bargainIn", "[Z", true)
  | 7 => ("CrossingWords$Court", "mixed", "[I", true)
  | 8 => ("CrossingWords$Court", "tally", "[I", true)
  | 9 => ("CrossingWords$Court", "hardLaw", "I", false)
  | _ => ("CrossingWords$Court", "hardCombo", "I", false)
def tyX3 : Nat → FieldType := fun k => match k with
  | 0 => .object "CrossingWords$Shelf"
  | 1 => .object "CrossingWords$Bench"
  | 2 => .object "CrossingWords$Bench"
  | 3 => .object "CrossingWords$Bench"
  | 4 => .array .int
  | 5 => .array .boolean
  | 6 => .array .boolean
  | 7 => .array .int
  | 8 => .array .int
  | 9 => .int
  | _ => .int
theorem nmX3 : ∀ a, a < 11 → ∀ b, b < 11 → a ≠ b → (TX3 a).2.1 ≠ (TX3 b).2.1 := by decide +kernel
theorem tyX3_ok : ∀ k, k < 11 → parseFieldDescriptor (TX3 k).2.2.1 = some (tyX3 k) := by decide +kernel
def RX4 : String := "CrossingWords$LawReader"
def TX4 : u_T := fun k => match k with
  | 0 => ("CrossingWords$LawReader", "tape", "LCrossingWords$Tape;", true)
  | _ => ("CrossingWords$LawReader", "told", "[I", true)
def tyX4 : Nat → FieldType := fun k => match k with
  | 0 => .object "CrossingWords$Tape"
  | _ => .array .int
theorem nmX4 : ∀ a, a < 2 → ∀ b, b < 2 → a ≠ b → (TX4 a).2.1 ≠ (TX4 b).2.1 := by decide +kernel
theorem tyX4_ok : ∀ k, k < 2 → parseFieldDescriptor (TX4 k).2.2.1 = some (tyX4 k) := by decide +kernel
def RX5 : String := "CrossingWords$Shelf"
def TX5 : u_T := fun k => match k with
  | 0 => ("CrossingWords$Shelf", "cases", "[LCrossingWords$Case;", true)
  | 1 => ("CrossingWords$Shelf", "laws", "[[I", true)
  | 2 => ("CrossingWords$Shelf", "clauses", "[[I", true)
  | 3 => ("CrossingWords$Shelf", "caseCount", "I", false)
  | 4 => ("CrossingWords$Shelf", "lawCount", "I", false)
  | _ => ("CrossingWords$Shelf", "clauseCount", "I", false)
def tyX5 : Nat → FieldType := fun k => match k with
  | 0 => .array (.object "CrossingWords$Case")
  | 1 => .array (.array .int)
  | 2 => .array (.array .int)
  | 3 => .int
  | 4 => .int
  | _ => .int
theorem nmX5 : ∀ a, a < 6 → ∀ b, b < 6 → a ≠ b → (TX5 a).2.1 ≠ (TX5 b).2.1 := by decide +kernel
theorem tyX5_ok : ∀ k, k < 6 → parseFieldDescriptor (TX5 k).2.2.1 = some (tyX5 k) := by decide +kernel
def RX6 : String := "CrossingWords$Tape"
def TX6 : u_T := fun k => match k with
  | 0 => ("CrossingWords$Tape", "bytes", "[B", true)
  | 1 => ("CrossingWords$Tape", "length", "I", false)
  | 2 => ("CrossingWords$Tape", "limit", "I", false)
  | 3 => ("CrossingWords$Tape", "place", "I", false)
  | 4 => ("CrossingWords$Tape", "behind", "I", false)
  | 5 => ("CrossingWords$Tape", "sort", "I", false)
  | _ => ("CrossingWords$Tape", "failedAt", "I", false)
def tyX6 : Nat → FieldType := fun k => match k with
  | 0 => .array .byte
  | 1 => .int
  | 2 => .int
  | 3 => .int
  | 4 => .int
  | 5 => .int
  | _ => .int
theorem nmX6 : ∀ a, a < 7 → ∀ b, b < 7 → a ≠ b → (TX6 a).2.1 ≠ (TX6 b).2.1 := by decide +kernel
theorem tyX6_ok : ∀ k, k < 7 → parseFieldDescriptor (TX6 k).2.2.1 = some (tyX6 k) := by decide +kernel
def RX7 : String := "CrossingWords"
def TX7 : u_T := fun k => match k with
  | 0 => ("CrossingWords", "tape", "LCrossingWords$Tape;", true)
  | 1 => ("CrossingWords", "shelf", "LCrossingWords$Shelf;", true)
  | 2 => ("CrossingWords", "images", "[LCrossingWords$Shelf;", true)
  | 3 => ("CrossingWords", "caseReader", "LCrossingWords$CaseReader;", true)
  | 4 => ("CrossingWords", "lawReader", "LCrossingWords$LawReader;", true)
  | 5 => ("CrossingWords", "court", "LCrossingWords$Court;", true)
  | 6 => ("CrossingWords", "nothingTold", "LCrossingWords$Case;", true)
  | 7 => ("CrossingWords", "imageCount", "I", false)
  | _ => ("CrossingWords", "faultPlace", "I", false)
def tyX7 : Nat → FieldType := fun k => match k with
  | 0 => .object "CrossingWords$Tape"
  | 1 => .object "CrossingWords$Shelf"
  | 2 => .array (.object "CrossingWords$Shelf")
  | 3 => .object "CrossingWords$CaseReader"
  | 4 => .object "CrossingWords$LawReader"
  | 5 => .object "CrossingWords$Court"
  | 6 => .object "CrossingWords$Case"
  | 7 => .int
  | _ => .int
theorem nmX7 : ∀ a, a < 9 → ∀ b, b < 9 → a ≠ b → (TX7 a).2.1 ≠ (TX7 b).2.1 := by decide +kernel
theorem tyX7_ok : ∀ k, k < 9 → parseFieldDescriptor (TX7 k).2.2.1 = some (tyX7 k) := by decide +kernel
def RX8 : String := "CrossingWordsModel"
def TX8 : u_T := fun k => match k with
  | 0 => ("CrossingWordsModel", "cases", "[I", true)
  | 1 => ("CrossingWordsModel", "laws", "[I", true)
  | 2 => ("CrossingWordsModel", "clauses", "[I", true)
  | 3 => ("CrossingWordsModel", "many", "[I", true)
  | 4 => ("CrossingWordsModel", "what", "[I", true)
  | 5 => ("CrossingWordsModel", "hand", "[I", true)
  | 6 => ("CrossingWordsModel", "whom", "[I", true)
  | 7 => ("CrossingWordsModel", "said", "[I", true)
  | 8 => ("CrossingWordsModel", "way", "[I", true)
  | 9 => ("CrossingWordsModel", "hold", "[I", true)
  | 10 => ("CrossingWordsModel", "given", "[I", true)
  | 11 => ("CrossingWordsModel", "loss", "[I", true)
  | 12 => ("CrossingWordsModel", "word", "[I", true)
  | 13 => ("CrossingWordsModel", "low", "[I", true)
  | 14 => ("CrossingWordsModel", "high", "[I", true)
  | 15 => ("CrossingWordsModel", "rule", "[I", true)
  | 16 => ("CrossingWordsModel", "tape", "[B", true)
  | 17 => ("CrossingWordsModel", "taped", "I", false)
  | 18 => ("CrossingWordsModel", "faultAt", "I", false)
  | 19 => ("CrossingWordsModel", "limit", "I", false)
  | 20 => ("CrossingWordsModel", "point", "I", false)
  | 21 => ("CrossingWordsModel", "from", "I", false)
  | 22 => ("CrossingWordsModel", "token", "I", false)
  | 23 => ("CrossingWordsModel", "value", "I", false)
  | 24 => ("CrossingWordsModel", "text", "J", false)
  | 25 => ("CrossingWordsModel", "isWrong", "Z", false)
  | 26 => ("CrossingWordsModel", "rules", "[I", true)
  | 27 => ("CrossingWordsModel", "n", "I", false)
  | 28 => ("CrossingWordsModel", "asked0", "I", false)
  | 29 => ("CrossingWordsModel", "combos", "I", false)
  | 30 => ("CrossingWordsModel", "wWhat", "[I", true)
  | 31 => ("CrossingWordsModel", "wWay", "[I", true)
  | 32 => ("CrossingWordsModel", "wLoss", "[I", true)
  | 33 => ("CrossingWordsModel", "wHold", "[I", true)
  | 34 => ("CrossingWordsModel", "wSaid", "[I", true)
  | 35 => ("CrossingWordsModel", "wHand", "[I", true)
  | 36 => ("CrossingWordsModel", "wWhom", "[I", true)
  | 37 => ("CrossingWordsModel", "isBarred", "[Z", true)
  | 38 => ("CrossingWordsModel", "wWord", "[I", true)
  | 39 => ("CrossingWordsModel", "wLow", "[I", true)
  | 40 => ("CrossingWordsModel", "wHigh", "[I", true)
  | 41 => ("CrossingWordsModel", "askedOf", "[I", true)
  | 42 => ("CrossingWordsModel", "radix", "[I", true)
  | 43 => ("CrossingWordsModel", "sent", "[I", true)
  | 44 => ("CrossingWordsModel", "comes", "[I", true)
  | 45 => ("CrossingWordsModel", "isRead", "[I", true)
  | 46 => ("CrossingWordsModel", "pick", "[I", true)
  | 47 => ("CrossingWordsModel", "opens", "[I", true)
  | 48 => ("CrossingWordsModel", "endsAt", "[I", true)
  | 49 => ("CrossingWordsModel", "why", "[I", true)
  | 50 => ("CrossingWordsModel", "has", "Z", false)
  | 51 => ("CrossingWordsModel", "byYes", "I", false)
  | 52 => ("CrossingWordsModel", "byOffer", "I", false)
  | 53 => ("CrossingWordsModel", "atHour", "I", false)
  | 54 => ("CrossingWordsModel", "isSure", "[Z", true)
  | 55 => ("CrossingWordsModel", "isNeeded", "[Z", true)
  | 56 => ("CrossingWordsModel", "hasBy", "[Z", true)
  | 57 => ("CrossingWordsModel", "met", "[I", true)
  | 58 => ("CrossingWordsModel", "firstYes", "[I", true)
  | 59 => ("CrossingWordsModel", "firstWords", "[I", true)
  | 60 => ("CrossingWordsModel", "apartCount", "I", false)
  | 61 => ("CrossingWordsModel", "apartFirst", "I", false)
  | _ => ("CrossingWordsModel", "images", "I", false)
def tyX8 : Nat → FieldType := fun k => match k with
  | 0 => .array .int
  | 1 => .array .int
  | 2 => .array .int
  | 3 => .array .int
  | 4 => .array .int
  | 5 => .array .int
  | 6 => .array .int
  | 7 => .array .int
  | 8 => .array .int
  | 9 => .array .int
  | 10 => .array .int
  | 11 => .array .int
  | 12 => .array .int
  | 13 => .array .int
  | 14 => .array .int
  | 15 => .array .int
  | 16 => .array .byte
  | 17 => .int
  | 18 => .int
  | 19 => .int
  | 20 => .int
  | 21 => .int
  | 22 => .int
  | 23 => .int
  | 24 => .long
  | 25 => .boolean
  | 26 => .array .int
  | 27 => .int
  | 28 => .int
  | 29 => .int
  | 30 => .array .int
  | 31 => .array .int
  | 32 => .array .int
  | 33 => .array .int
  | 34 => .array .int
  | 35 => .array .int
  | 36 => .array .int
  | 37 => .array .boolean
  | 38 => .array .int
  | 39 => .array .int
  | 40 => .array .int
  | 41 => .array .int
  | 42 => .array .int
  | 43 => .array .int
  | 44 => .array .int
  | 45 => .array .int
  | 46 => .array .int
  | 47 => .array .int
  | 48 => .array .int
  | 49 => .array .int
  | 50 => .boolean
  | 51 => .int
  | 52 => .int
  | 53 => .int
  | 54 => .array .boolean
  | 55 => .array .boolean
  | 56 => .array .boolean
  | 57 => .array .int
  | 58 => .array .int
  | 59 => .array .int
  | 60 => .int
  | 61 => .int
  | _ => .int
theorem nmX8 : ∀ a, a < 63 → ∀ b, b < 63 → a ≠ b → (TX8 a).2.1 ≠ (TX8 b).2.1 := by decide +kernel
theorem tyX8_ok : ∀ k, k < 63 → parseFieldDescriptor (TX8 k).2.2.1 = some (tyX8 k) := by decide +kernel
def av_cn : Nat → String := fun k => match k with
  | 0 => RX0
  | 1 => RX1
  | 2 => RX2
  | 3 => RX3
  | 4 => RX4
  | 5 => RX5
  | 6 => RX6
  | 7 => RX7
  | 8 => RX8
  | 9 => "CrossingWordsLaw"
  | 10 => "java/util/Arrays"
  | 11 => "java/lang/Integer"
  | 12 => "java/lang/Math"
  | 13 => "java/lang/System"
  | 14 => "java/lang/String"
  | _ => "java/lang/Object"
def av_T : Nat → u_T := fun k => match k with
  | 0 => TX0
  | 1 => TX1
  | 2 => TX2
  | 3 => TX3
  | 4 => TX4
  | 5 => TX5
  | 6 => TX6
  | 7 => TX7
  | _ => TX8
def av_N : Nat → Nat := fun k => match k with
  | 0 => 16
  | 1 => 4
  | 2 => 3
  | 3 => 11
  | 4 => 2
  | 5 => 6
  | 6 => 7
  | 7 => 9
  | _ => 63
def av_ty : Nat → (Nat → FieldType) := fun k => match k with
  | 0 => tyX0
  | 1 => tyX1
  | 2 => tyX2
  | 3 => tyX3
  | 4 => tyX4
  | 5 => tyX5
  | 6 => tyX6
  | 7 => tyX7
  | _ => tyX8
theorem av_mem {w : Cond} {i : Nat} (h : tables_1[i]? = some w) : w ∈ lw_tbl := List.mem_append_right _ (List.mem_of_getElem? h)
theorem av_sub {ws : List Cond} (is : List Nat) (h : ws = is.filterMap (fun i => tables_1[i]?)) : ∀ w ∈ ws, w ∈ lw_tbl := by
  intro w hw
  rw [h] at hw
  obtain ⟨i, -, hi⟩ := List.mem_filterMap.mp hw
  exact av_mem hi
set_option maxRecDepth 100000 in
theorem av_lay0 : ∀ w ∈ u_ws RX0 TX0 16, w ∈ lw_tbl := av_sub [214, 216, 218, 220, 222, 224, 226, 228, 230, 232, 234, 236, 238, 240, 242, 244] rfl
set_option maxRecDepth 100000 in
theorem av_inst0 : Cond.instantiable RX0 16 ∈ lw_tbl ∧ Cond.initialized RX0 ∈ lw_tbl := ⟨av_mem (i := 184) rfl, av_mem (i := 11) rfl⟩
set_option maxRecDepth 100000 in
theorem av_lay1 : ∀ w ∈ u_ws RX1 TX1 4, w ∈ lw_tbl := av_sub [173, 175, 177, 179] rfl
set_option maxRecDepth 100000 in
theorem av_inst1 : Cond.instantiable RX1 4 ∈ lw_tbl ∧ Cond.initialized RX1 ∈ lw_tbl := ⟨av_mem (i := 134) rfl, av_mem (i := 7) rfl⟩
set_option maxRecDepth 100000 in
theorem av_lay2 : ∀ w ∈ u_ws RX2 TX2 3, w ∈ lw_tbl := av_sub [106, 108, 110] rfl
set_option maxRecDepth 100000 in
theorem av_inst2 : Cond.instantiable RX2 3 ∈ lw_tbl ∧ Cond.initialized RX2 ∈ lw_tbl := ⟨av_mem (i := 98) rfl, av_mem (i := 4) rfl⟩
set_option maxRecDepth 100000 in
theorem av_lay3 : ∀ w ∈ u_ws RX3 TX3 11, w ∈ lw_tbl := av_sub [260, 262, 264, 266, 268, 270, 272, 274, 276, 278, 280] rfl
set_option maxRecDepth 100000 in
theorem av_inst3 : Cond.instantiable RX3 11 ∈ lw_tbl ∧ Cond.initialized RX3 ∈ lw_tbl := ⟨av_mem (i := 128) rfl, av_mem (i := 6) rfl⟩
set_option maxRecDepth 100000 in
theorem av_lay4 : ∀ w ∈ u_ws RX4 TX4 2, w ∈ lw_tbl := av_sub [122, 124] rfl
set_option maxRecDepth 100000 in
theorem av_inst4 : Cond.instantiable RX4 2 ∈ lw_tbl ∧ Cond.initialized RX4 ∈ lw_tbl := ⟨av_mem (i := 114) rfl, av_mem (i := 5) rfl⟩
set_option maxRecDepth 100000 in
theorem av_lay5 : ∀ w ∈ u_ws RX5 TX5 6, w ∈ lw_tbl := av_sub [82, 84, 86, 88, 90, 92] rfl
set_option maxRecDepth 100000 in
theorem av_inst5 : Cond.instantiable RX5 6 ∈ lw_tbl ∧ Cond.initialized RX5 ∈ lw_tbl := ⟨av_mem (i := 60) rfl, av_mem (i := 3) rfl⟩
set_option maxRecDepth 100000 in
theorem av_lay6 : ∀ w ∈ u_ws RX6 TX6 7, w ∈ lw_tbl := av_sub [43, 45, 47, 49, 51, 53, 55] rfl
set_option maxRecDepth 100000 in
theorem av_inst6 : Cond.instantiable RX6 7 ∈ lw_tbl ∧ Cond.initialized RX6 ∈ lw_tbl := ⟨av_mem (i := 27) rfl, av_mem (i := 2) rfl⟩
set_option maxRecDepth 100000 in
theorem av_lay7 : ∀ w ∈ u_ws RX7 TX7 9, w ∈ lw_tbl := av_sub [294, 296, 298, 300, 302, 304, 306, 308, 310] rfl
set_option maxRecDepth 100000 in
theorem av_inst7 : Cond.instantiable RX7 9 ∈ lw_tbl ∧ Cond.initialized RX7 ∈ lw_tbl := ⟨av_mem (i := 19) rfl, av_mem (i := 1) rfl⟩
set_option maxRecDepth 100000 in
theorem av_lay8 : ∀ w ∈ u_ws RX8 TX8 63, w ∈ lw_tbl := av_sub [977, 979, 981, 983, 985, 987, 989, 991, 993, 995, 997, 999, 1001, 1003, 1005, 1007, 1009, 1011, 1013, 1015, 1017, 1019, 1021, 1023, 1025, 1027, 1029, 1031, 1033, 1035, 1037, 1039, 1041, 1043, 1045, 1047, 1049, 1051, 1053, 1055, 1057, 1059, 1061, 1063, 1065, 1067, 1069, 1071, 1073, 1075, 1077, 1079, 1081, 1083, 1085, 1087, 1089, 1091, 1093, 1095, 1097, 1099, 1101] rfl
set_option maxRecDepth 100000 in
theorem av_inst8 : Cond.instantiable RX8 63 ∈ lw_tbl ∧ Cond.initialized RX8 ∈ lw_tbl := ⟨av_mem (i := 909) rfl, av_mem (i := 12) rfl⟩
theorem av_lay : ∀ ci, ci < 9 → ∀ w ∈ u_ws (av_cn ci) (av_T ci) (av_N ci), w ∈ lw_tbl := fun ci h => match ci, h with
  | 0, _ => av_lay0
  | 1, _ => av_lay1
  | 2, _ => av_lay2
  | 3, _ => av_lay3
  | 4, _ => av_lay4
  | 5, _ => av_lay5
  | 6, _ => av_lay6
  | 7, _ => av_lay7
  | 8, _ => av_lay8
  | k + 9, h => absurd h (by omega)
theorem av_inst : ∀ ci, ci < 9 → Cond.instantiable (av_cn ci) (av_N ci) ∈ lw_tbl ∧ Cond.initialized (av_cn ci) ∈ lw_tbl := fun ci h => match ci, h with
  | 0, _ => av_inst0
  | 1, _ => av_inst1
  | 2, _ => av_inst2
  | 3, _ => av_inst3
  | 4, _ => av_inst4
  | 5, _ => av_inst5
  | 6, _ => av_inst6
  | 7, _ => av_inst7
  | 8, _ => av_inst8
  | k + 9, h => absurd h (by omega)
theorem av_nm : ∀ ci, ci < 9 → ∀ a, a < av_N ci → ∀ b, b < av_N ci → a ≠ b → ((av_T ci) a).2.1 ≠ ((av_T ci) b).2.1 := fun ci h => match ci, h with
  | 0, _ => nmX0
  | 1, _ => nmX1
  | 2, _ => nmX2
  | 3, _ => nmX3
  | 4, _ => nmX4
  | 5, _ => nmX5
  | 6, _ => nmX6
  | 7, _ => nmX7
  | 8, _ => nmX8
  | k + 9, h => absurd h (by omega)
theorem av_tyok : ∀ ci, ci < 9 → ∀ k, k < av_N ci → parseFieldDescriptor ((av_T ci) k).2.2.1 = some (av_ty ci k) := fun ci h => match ci, h with
  | 0, _ => tyX0_ok
  | 1, _ => tyX1_ok
  | 2, _ => tyX2_ok
  | 3, _ => tyX3_ok
  | 4, _ => tyX4_ok
  | 5, _ => tyX5_ok
  | 6, _ => tyX6_ok
  | 7, _ => tyX7_ok
  | 8, _ => tyX8_ok
  | k + 9, h => absurd h (by omega)
end
section
/-! THE SMALL MACHINE: the class's and the reference's bytecode over plain numbers. A value: an int, a long, a reference (a cell's number from the law's start on; none: null), a constant (a literal's place; 100 the script, 101 the plain law).
A heap: how many cells, how many slots so far, what each cell is (its kind: 0 to 8 an object of that row of av_cn; 20 ints, 21 bytes, 22 booleans; 30, 31, 32 references; its length), arrays of numbers, number fields, reference fields, arrays of references. The script lies outside: only the law itself may read it. -/
abbrev av_Sr : Type := Option (Nat × (Nat → Int))
abbrev av_V : Type := Int ⊕ Int ⊕ Option Nat ⊕ Nat
abbrev av_L : Type := List (Option av_V)
abbrev av_H : Type := Nat × Nat × (Nat → Nat × Nat) × (Nat → Nat → Int) × (Nat → Nat → Int) × (Nat → Nat → Option Nat) × (Nat → Nat → Option Nat) × Unit
abbrev av_E : Type := Instr × Nat × Nat × Nat × Nat × Int
def av_w (x : Int) : Int := Int.bmod x 4294967296
def av_wl (x : Int) : Int := Int.bmod x 18446744073709551616
def av_u2 {α : Type} (f : Nat → Nat → α) (i j : Nat) (v : α) : Nat → Nat → α := fun a b => if a = i ∧ b = j then v else f a b
def av_u1 {α : Type} (f : Nat → α) (i : Nat) (v : α) : Nat → α := fun a => if a = i then v else f a
def av_cat : av_V → Nat
  | .inr (.inl _) => 2
  | _ => 1
def av_cmp (c : Jvm.ClassFile.Cond) (x y : Int) : Bool := match c with
  | .eq => decide (x = y)
  | .ne => decide (¬ x = y)
  | .lt => decide (x < y)
  | .ge => decide (y ≤ x)
  | .gt => decide (y < x)
  | .le => decide (x ≤ y)
def av_and (x y : Int) : Int := (Int32.ofInt x &&& Int32.ofInt y).toInt
def av_or (x y : Int) : Int := (Int32.ofInt x ||| Int32.ofInt y).toInt
def av_shl (x y : Int) : Int := (Int32.ofInt x <<< (Int32.ofInt y &&& 31)).toInt
def av_shr (x y : Int) : Int := (Int32.ofInt x >>> (Int32.ofInt y &&& 31)).toInt
def av_ushr (x y : Int) : Int := ((Int32.ofInt x).toUInt32 >>> ((Int32.ofInt y).toUInt32 &&& Int32.toUInt32 31)).toInt32.toInt
def av_b (x : Int) : Int := Int.bmod x 256
/-- the plain law's cells -/
def av_plain (k : Nat) : Int := [1, 1, 1, 1, 1, 1, 0, -1, -1, 0, 0, 0, 0, 0].getD k 0
def av_lg : Option av_V → Bool
  | some (.inr (.inl _)) => true
  | _ => false
def av_sto (lv : av_L) (i : Nat) (v : av_V) : Option av_L := match i with
  | 0 => if 0 < lv.length then some (lv.set 0 (some v)) else none
  | j + 1 => if j + 1 < lv.length then (if av_lg ((lv[j]?).join) then none else some (lv.set (j + 1) (some v))) else none
abbrev av_S : Type := Nat × av_L × List av_V × av_H
def av_bin (f : Int → Int → Int) (pc : Nat) (lv : av_L) (st : List av_V) (h : av_H) : Option av_S := match st with
  | .inl y :: .inl x :: r => some (pc + 1, lv, .inl (f x y) :: r, h)
  | _ => none
/-- a number that is loaded, a reference that is loaded, a long that is loaded -/
def av_ldi (i n pc : Nat) (lv : av_L) (st : List av_V) (h : av_H) : Option av_S := match (lv[i]?).join with
  | some (.inl x) => some (pc + n, lv, .inl x :: st, h)
  | _ => none
def av_lda (i n pc : Nat) (lv : av_L) (st : List av_V) (h : av_H) : Option av_S := match (lv[i]?).join with
  | some (.inr (.inr v)) => some (pc + n, lv, .inr (.inr v) :: st, h)
  | _ => none
def av_ldl (i n pc : Nat) (lv : av_L) (st : List av_V) (h : av_H) : Option av_S := match (lv[i]?).join with
  | some (.inr (.inl x)) => some (pc + n, lv, .inr (.inl x) :: st, h)
  | _ => none
def av_sti (i n pc : Nat) (lv : av_L) (st : List av_V) (h : av_H) : Option av_S := match st with
  | .inl x :: r => (av_sto lv i (.inl x)).map (fun lv' => (pc + n, lv', r, h))
  | _ => none
def av_sta (i n pc : Nat) (lv : av_L) (st : List av_V) (h : av_H) : Option av_S := match st with
  | .inr (.inr v) :: r => (av_sto lv i (.inr (.inr v))).map (fun lv' => (pc + n, lv', r, h))
  | _ => none
def av_iinc (i : Nat) (n : Int) (pc : Nat) (lv : av_L) (st : List av_V) (h : av_H) : Option av_S := match (lv[i]?).join with
  | some (.inl x) => (av_sto lv i (.inl (x + n))).map (fun lv' => (pc + 3, lv', st, h))
  | _ => none
def av_getf (e : av_E) (pc : Nat) (lv : av_L) (st : List av_V) (h : av_H) : Option av_S := match st with
  | .inr (.inr (.inl (some o))) :: r =>
    if o < h.1 ∧ (h.2.2.1 o).1 = e.2.2.1 then
      some (pc + 3, lv, (match e.2.2.2.2.1 with
        | 1 => .inr (.inl (h.2.2.2.2.1 o e.2.2.2.1))
        | 2 => .inr (.inr (.inl (h.2.2.2.2.2.1 o e.2.2.2.1)))
        | _ => .inl (h.2.2.2.2.1 o e.2.2.2.1)) :: r, h)
    else none
  | _ => none
def av_putf (e : av_E) (pc : Nat) (lv : av_L) (st : List av_V) (h : av_H) : Option av_S := match e.2.2.2.2.1, st with
  | 0, .inl x :: .inr (.inr (.inl (some o))) :: r => if o < h.1 ∧ (h.2.2.1 o).1 = e.2.2.1 then some (pc + 3, lv, r, (h.1, h.2.1, h.2.2.1, h.2.2.2.1, av_u2 h.2.2.2.2.1 o e.2.2.2.1 x, h.2.2.2.2.2)) else none
  | 1, .inr (.inl x) :: .inr (.inr (.inl (some o))) :: r => if o < h.1 ∧ (h.2.2.1 o).1 = e.2.2.1 then some (pc + 3, lv, r, (h.1, h.2.1, h.2.2.1, h.2.2.2.1, av_u2 h.2.2.2.2.1 o e.2.2.2.1 x, h.2.2.2.2.2)) else none
  | 2, .inr (.inr (.inl v)) :: .inr (.inr (.inl (some o))) :: r => if o < h.1 ∧ (h.2.2.1 o).1 = e.2.2.1 then some (pc + 3, lv, r, (h.1, h.2.1, h.2.2.1, h.2.2.2.1, h.2.2.2.2.1, av_u2 h.2.2.2.2.2.1 o e.2.2.2.1 v, h.2.2.2.2.2.2)) else none
  | 3, .inl x :: .inr (.inr (.inl (some o))) :: r => if (o < h.1 ∧ (h.2.2.1 o).1 = e.2.2.1) ∧ (x = 0 ∨ x = 1) then some (pc + 3, lv, r, (h.1, h.2.1, h.2.2.1, h.2.2.2.1, av_u2 h.2.2.2.2.1 o e.2.2.2.1 x, h.2.2.2.2.2)) else none
  | _, _ => none
/-- the place i lies in a row of n -/
def av_in (i : Int) (n : Nat) : Prop := 0 ≤ av_w i ∧ av_w i < n
def av_inB (i : Int) (n : Nat) : Bool := decide (0 ≤ av_w i) && decide (av_w i < n)
def av_ald (sc : av_Sr) (ks : List Nat) (pc : Nat) (lv : av_L) (st : List av_V) (h : av_H) : Option av_S := match st with
  | .inl i :: .inr (.inr (.inl (some o))) :: r => if (o < h.1 ∧ (h.2.2.1 o).1 ∈ ks) ∧ av_inB i (h.2.2.1 o).2 = true then some (pc + 1, lv, .inl (h.2.2.2.1 o (av_w i).toNat) :: r, h) else none
  | .inl i :: .inr (.inr (.inr 100)) :: r => (match sc with
    | none => none
    | some q => if ks = [20] ∧ av_inB i q.1 = true then some (pc + 1, lv, .inl (q.2 (av_w i).toNat) :: r, h) else none)
  | _ => none
/-- a reference may lie in the row o -/
def av_okR (h : av_H) (o : Nat) (v : Option Nat) : Bool := match v with
  | none => true
  | some q => decide (q < h.1 ∧ (h.2.2.1 q).1 = (if (h.2.2.1 o).1 = 30 then 1 else 5))
def av_aast (pc : Nat) (lv : av_L) (st : List av_V) (h : av_H) : Option av_S := match st with
  | .inr (.inr (.inl v)) :: .inl i :: .inr (.inr (.inl (some o))) :: r =>
    if (o < h.1 ∧ ((h.2.2.1 o).1 = 30 ∨ (h.2.2.1 o).1 = 31)) ∧ av_inB i (h.2.2.1 o).2 = true ∧ av_okR h o v = true then
      some (pc + 1, lv, r, (h.1, h.2.1, h.2.2.1, h.2.2.2.1, h.2.2.2.2.1, h.2.2.2.2.2.1, av_u2 h.2.2.2.2.2.2.1 o (av_w i).toNat v, h.2.2.2.2.2.2.2))
    else none
  | _ => none
def av_aald (pc : Nat) (lv : av_L) (st : List av_V) (h : av_H) : Option av_S := match st with
  | .inl i :: .inr (.inr (.inl (some o))) :: r => if (o < h.1 ∧ (h.2.2.1 o).1 ∈ [30, 31, 32]) ∧ av_inB i (h.2.2.1 o).2 = true then some (pc + 1, lv, .inr (.inr (.inl (h.2.2.2.2.2.2.1 o (av_w i).toNat))) :: r, h) else none
  | _ => none
def av_iast (pc : Nat) (lv : av_L) (st : List av_V) (h : av_H) : Option av_S := match st with
  | .inl x :: .inl i :: .inr (.inr (.inl (some o))) :: r => if (o < h.1 ∧ (h.2.2.1 o).1 = 20) ∧ av_inB i (h.2.2.1 o).2 = true then some (pc + 1, lv, r, (h.1, h.2.1, h.2.2.1, av_u2 h.2.2.2.1 o (av_w i).toNat x, h.2.2.2.2)) else none
  | _ => none
def av_bast (pc : Nat) (lv : av_L) (st : List av_V) (h : av_H) : Option av_S := match st with
  | .inl x :: .inl i :: .inr (.inr (.inl (some o))) :: r =>
    if (o < h.1 ∧ (h.2.2.1 o).1 = 21) ∧ av_inB i (h.2.2.1 o).2 = true then some (pc + 1, lv, r, (h.1, h.2.1, h.2.2.1, av_u2 h.2.2.2.1 o (av_w i).toNat (av_b x), h.2.2.2.2))
    else if (o < h.1 ∧ (h.2.2.1 o).1 = 22) ∧ av_inB i (h.2.2.1 o).2 = true ∧ (x = 0 ∨ x = 1) then some (pc + 1, lv, r, (h.1, h.2.1, h.2.2.1, av_u2 h.2.2.2.1 o (av_w i).toNat x, h.2.2.2.2))
    else none
  | _ => none
/-- a new row of numbers, of references; a new object -/
def av_newN (k n : Nat) (f : Nat → Int) (h : av_H) : av_H := (h.1 + 1, h.2.1 + n, av_u1 h.2.2.1 h.1 (k, n), av_u1 h.2.2.2.1 h.1 f, h.2.2.2.2)
def av_newR (k n : Nat) (h : av_H) : av_H := (h.1 + 1, h.2.1 + n, av_u1 h.2.2.1 h.1 (k, n), h.2.2.2.1, h.2.2.2.2.1, h.2.2.2.2.2.1, av_u1 h.2.2.2.2.2.2.1 h.1 (fun _ => none), h.2.2.2.2.2.2.2)
def av_newO (ci n : Nat) (h : av_H) : av_H := (h.1 + 1, h.2.1 + n, av_u1 h.2.2.1 h.1 (ci, 0), h.2.2.2.1, av_u1 h.2.2.2.2.1 h.1 (fun _ => 0), av_u1 h.2.2.2.2.2.1 h.1 (fun _ => none), h.2.2.2.2.2.2)
/-- n rows of k ints, and the row of them -/
def av_newM (n k : Nat) (h : av_H) : av_H := (h.1 + 1 + n, h.2.1 + n + n * k, (fun a => if a = h.1 then (32, n) else if h.1 < a ∧ a < h.1 + 1 + n then (20, k) else h.2.2.1 a), (fun a j => if h.1 < a ∧ a < h.1 + 1 + n then 0 else h.2.2.2.1 a j), h.2.2.2.2.1, h.2.2.2.2.2.1, av_u1 h.2.2.2.2.2.2.1 h.1 (fun i => if i < n then some (h.1 + 1 + i) else none), h.2.2.2.2.2.2.2)
def av_atk : ArrayType → Nat
  | .int => 20
  | .byte => 21
  | .boolean => 22
  | _ => 99
def av_newa (t : ArrayType) (pc : Nat) (lv : av_L) (st : List av_V) (h : av_H) : Option av_S := match st with
  | .inl n :: r => if av_atk t ≠ 99 ∧ 0 ≤ av_w n ∧ av_w n ≤ 100000 then some (pc + 2, lv, .inr (.inr (.inl (some h.1))) :: r, av_newN (av_atk t) (av_w n).toNat (fun _ => 0) h) else none
  | _ => none
def av_anew (k pc : Nat) (lv : av_L) (st : List av_V) (h : av_H) : Option av_S := match st with
  | .inl n :: r => if (k = 30 ∨ k = 31) ∧ 0 ≤ av_w n ∧ av_w n ≤ 100000 then some (pc + 3, lv, .inr (.inr (.inl (some h.1))) :: r, av_newR k (av_w n).toNat h) else none
  | _ => none
def av_mnew (pc : Nat) (lv : av_L) (st : List av_V) (h : av_H) : Option av_S := match st with
  | .inl k :: .inl n :: r => if (0 ≤ av_w n ∧ av_w n ≤ 1000) ∧ (0 ≤ av_w k ∧ av_w k ≤ 1000) then some (pc + 4, lv, .inr (.inr (.inl (some h.1))) :: r, av_newM (av_w n).toNat (av_w k).toNat h) else none
  | _ => none
def av_alen (sc : av_Sr) (pc : Nat) (lv : av_L) (st : List av_V) (h : av_H) : Option av_S := match st with
  | .inr (.inr (.inl (some o))) :: r => if o < h.1 ∧ (h.2.2.1 o).1 ∈ [20, 21, 22, 30, 31, 32] then some (pc + 1, lv, .inl ((h.2.2.1 o).2 : Int) :: r, h) else none
  | .inr (.inr (.inr 100)) :: r => (match sc with
    | none => none
    | some q => some (pc + 1, lv, .inl (q.1 : Int) :: r, h))
  | _ => none
/-- n places of f from sp on, laid over the row d from dp on -/
def av_cpy (A : Nat → Nat → Int) (d sp dp n : Nat) (f : Nat → Int) : Nat → Nat → Int := fun a j => if a = d ∧ dp ≤ j ∧ j < dp + n then f (sp + (j - dp)) else A a j
/-- the literals' bytes, by their places -/
def av_lits : List (List Int) := [
  [111, 102, 102, 101, 114, 32, 97, 115, 107, 32, 121, 101, 115, 32, 110, 111, 32, 98, 97, 99, 107, 32, 100, 101, 101, 100, 32, 115, 101, 110, 100],
  [97, 32, 98, 32, 99],
  [112, 114, 105, 99, 101, 32, 109, 117, 99, 104, 32, 100, 97, 121, 32, 112, 111, 114, 116, 32, 99, 111, 117, 114, 116],
  [104, 111, 108, 100],
  [103, 105, 118, 101, 110],
  [98, 117, 116],
  [112, 111, 115, 116, 32, 119, 105, 114, 101, 32, 109, 111, 117, 116, 104, 32, 100, 101, 101, 100],
  [97, 116],
  [116, 111],
  [97, 102, 116, 101, 114],
  [114, 101, 97, 100],
  [108, 111, 115, 116],
  [121, 101, 115, 32, 111, 102, 102, 101, 114, 32, 98, 97, 99, 107, 32, 110, 111, 32, 104, 111, 108, 100, 32, 108, 97, 112, 115, 101, 32, 115, 105, 108, 101, 110, 99, 101, 32, 98, 117, 116, 32, 102, 111, 114, 109, 32, 100, 101, 101, 100, 32, 114, 105, 115, 107],
  [112, 111, 115, 116, 32, 119, 105, 114, 101, 32, 109, 111, 117, 116, 104, 32, 97, 108, 108],
  [115, 101, 110, 116, 32, 99, 111, 109, 101, 32, 114, 101, 97, 100],
  [102, 114, 101, 101, 32, 98, 105, 110, 100, 115],
  [110, 111, 32, 115, 109, 97, 108, 108],
  [102, 105, 114, 115, 116, 32, 108, 97, 115, 116, 32, 110, 111, 110, 101],
  [110, 111, 110, 101, 32, 121, 101, 115],
  [98, 97, 114, 103, 97, 105, 110, 32, 115, 101, 110, 116, 32, 99, 111, 109, 101]]
def av_lit (k : Nat) : List Int := av_lits.getD k []
/-- what the library's own members do (1000 Object's constructor, 1001 max, 1002 min, 1003 arraycopy, 1004 clone of ints, 1005 length, 1006 charAt of a literal) -/
def av_lib (a pc : Nat) (lv : av_L) (st : List av_V) (h : av_H) : Option av_S := match a, st with
  | 1000, .inr (.inr (.inl (some _))) :: r => if (r.map av_cat).sum ≤ 8 then some (pc + 3, lv, r, h) else none
  | 1001, .inl y :: .inl x :: r => if (r.map av_cat).sum ≤ 8 then some (pc + 3, lv, .inl (if av_w x < av_w y then y else x) :: r, h) else none
  | 1002, .inl y :: .inl x :: r => if (r.map av_cat).sum ≤ 8 then some (pc + 3, lv, .inl (if av_w y < av_w x then y else x) :: r, h) else none
  | 1003, .inl n :: .inl dp :: .inr (.inr (.inl (some d))) :: .inl sp :: .inr (.inr (.inl (some q))) :: r =>
    if (r.map av_cat).sum ≤ 8 ∧ (d < h.1 ∧ (h.2.2.1 d).1 = 20) ∧ (q < h.1 ∧ (h.2.2.1 q).1 = 20) ∧ (0 ≤ av_w n ∧ 0 ≤ av_w dp ∧ 0 ≤ av_w sp) ∧ av_w sp + av_w n ≤ (h.2.2.1 q).2 ∧ av_w dp + av_w n ≤ (h.2.2.1 d).2 then
      some (pc + 3, lv, r, (h.1, h.2.1, h.2.2.1, av_cpy h.2.2.2.1 d (av_w sp).toNat (av_w dp).toNat (av_w n).toNat (h.2.2.2.1 q), h.2.2.2.2)) else none
  | 1003, .inl n :: .inl dp :: .inr (.inr (.inl (some d))) :: .inl sp :: .inr (.inr (.inr 101)) :: r =>
    if (r.map av_cat).sum ≤ 8 ∧ (d < h.1 ∧ (h.2.2.1 d).1 = 20) ∧ (0 ≤ av_w n ∧ 0 ≤ av_w dp ∧ 0 ≤ av_w sp) ∧ av_w sp + av_w n ≤ 14 ∧ av_w dp + av_w n ≤ (h.2.2.1 d).2 then
      some (pc + 3, lv, r, (h.1, h.2.1, h.2.2.1, av_cpy h.2.2.2.1 d (av_w sp).toNat (av_w dp).toNat (av_w n).toNat av_plain, h.2.2.2.2)) else none
  | 1004, .inr (.inr (.inl (some o))) :: r =>
    if (r.map av_cat).sum ≤ 8 ∧ (o < h.1 ∧ (h.2.2.1 o).1 = 20) then some (pc + 3, lv, .inr (.inr (.inl (some h.1))) :: r, av_newN 20 (h.2.2.1 o).2 (h.2.2.2.1 o) h) else none
  | 1005, .inr (.inr (.inr k)) :: r => if (r.map av_cat).sum ≤ 8 ∧ k < 20 then some (pc + 3, lv, .inl ((av_lit k).length : Int) :: r, h) else none
  | 1006, .inl i :: .inr (.inr (.inr k)) :: r => if (r.map av_cat).sum ≤ 8 ∧ k < 20 ∧ av_inB i (av_lit k).length = true then some (pc + 3, lv, .inl ((av_lit k).getD (av_w i).toNat 0) :: r, h) else none
  | _, _ => none
def av_stp (sc : av_Sr) (e : av_E) (pc : Nat) (lv : av_L) (st : List av_V) (h : av_H) : Option av_S := match e.1 with
  | .iconst n => some (pc + 1, lv, .inl n :: st, h)
  | .bipush n => some (pc + 2, lv, .inl n :: st, h)
  | .sipush n => some (pc + 3, lv, .inl n :: st, h)
  | .ldc _ => if e.2.2.1 = 0 then some (pc + 2, lv, .inl e.2.2.2.2.2 :: st, h) else some (pc + 2, lv, .inr (.inr (.inr e.2.2.2.1)) :: st, h)
  | .ldc_w _ => some (pc + 3, lv, .inl e.2.2.2.2.2 :: st, h)
  | .ldc2_w _ => some (pc + 3, lv, .inr (.inl e.2.2.2.2.2) :: st, h)
  | .lconst n => some (pc + 1, lv, .inr (.inl (n.val : Int)) :: st, h)
  | .aconst_null => some (pc + 1, lv, .inr (.inr (.inl none)) :: st, h)
  | .iload_n i => av_ldi i.val 1 pc lv st h
  | .iload i => av_ldi i 2 pc lv st h
  | .aload_n i => av_lda i.val 1 pc lv st h
  | .aload i => av_lda i 2 pc lv st h
  | .lload_n i => av_ldl i.val 1 pc lv st h
  | .lload i => av_ldl i 2 pc lv st h
  | .istore_n i => av_sti i.val 1 pc lv st h
  | .istore i => av_sti i 2 pc lv st h
  | .astore_n i => av_sta i.val 1 pc lv st h
  | .astore i => av_sta i 2 pc lv st h
  | .iinc i n => av_iinc i n pc lv st h
  | .iadd => av_bin (fun x y => x + y) pc lv st h
  | .isub => av_bin (fun x y => x - y) pc lv st h
  | .imul => av_bin (fun x y => x * y) pc lv st h
  | .iand => av_bin av_and pc lv st h
  | .ior => av_bin av_or pc lv st h
  | .ishl => av_bin av_shl pc lv st h
  | .ishr => av_bin av_shr pc lv st h
  | .iushr => av_bin av_ushr pc lv st h
  | .idiv => (match st with
    | .inl y :: .inl x :: r => if av_w y = 0 then none else some (pc + 1, lv, .inl ((av_w x).tdiv (av_w y)) :: r, h)
    | _ => none)
  | .irem => (match st with
    | .inl y :: .inl x :: r => if av_w y = 0 then none else some (pc + 1, lv, .inl ((av_w x).tmod (av_w y)) :: r, h)
    | _ => none)
  | .ladd => (match st with
    | .inr (.inl y) :: .inr (.inl x) :: r => some (pc + 1, lv, .inr (.inl (x + y)) :: r, h)
    | _ => none)
  | .lmul => (match st with
    | .inr (.inl y) :: .inr (.inl x) :: r => some (pc + 1, lv, .inr (.inl (x * y)) :: r, h)
    | _ => none)
  | .lcmp => (match st with
    | .inr (.inl y) :: .inr (.inl x) :: r => some (pc + 1, lv, .inl (if av_wl y < av_wl x then 1 else if av_wl x = av_wl y then 0 else -1) :: r, h)
    | _ => none)
  | .i2l => (match st with
    | .inl x :: r => some (pc + 1, lv, .inr (.inl (av_w x)) :: r, h)
    | _ => none)
  | .l2i => (match st with
    | .inr (.inl x) :: r => some (pc + 1, lv, .inl x :: r, h)
    | _ => none)
  | .i2b => (match st with
    | .inl x :: r => some (pc + 1, lv, .inl (av_b x) :: r, h)
    | _ => none)
  | .dup => (match st with
    | v :: r => if av_cat v = 1 then some (pc + 1, lv, v :: v :: r, h) else none
    | _ => none)
  | .pop => (match st with
    | v :: r => if av_cat v = 1 then some (pc + 1, lv, r, h) else none
    | _ => none)
  | .dup2 => (match st with
    | v :: u :: r => if av_cat v = 1 ∧ av_cat u = 1 then some (pc + 1, lv, v :: u :: v :: u :: r, h) else none
    | _ => none)
  | .goto _ => some (e.2.2.1, lv, st, h)
  | .ifCond c _ => (match st with
    | .inl x :: r => some (if av_cmp c (av_w x) 0 = true then e.2.2.1 else pc + 3, lv, r, h)
    | _ => none)
  | .if_icmp c _ => (match st with
    | .inl y :: .inl x :: r => some (if av_cmp c (av_w x) (av_w y) = true then e.2.2.1 else pc + 3, lv, r, h)
    | _ => none)
  | .ifnull _ => (match st with
    | .inr (.inr (.inl v)) :: r => some (match v with
      | none => e.2.2.1
      | some _ => pc + 3, lv, r, h)
    | _ => none)
  | .ifnonnull _ => (match st with
    | .inr (.inr (.inl v)) :: r => some (match v with
      | none => pc + 3
      | some _ => e.2.2.1, lv, r, h)
    | _ => none)
  | .tableswitch d lo hi offs => (match st with
    | .inl x :: r => some ((pc + (if av_w x < lo ∨ hi < av_w x then d else offs.toList.getD (av_w x - lo).toNat 0)).toNat, lv, r, h)
    | _ => none)
  | .lookupswitch d ps => (match st with
    | .inl x :: r => some ((pc + Op.lookupswitch.offset ps.toList d (av_w x)).toNat, lv, r, h)
    | _ => none)
  | .getfield _ => av_getf e pc lv st h
  | .putfield _ => av_putf e pc lv st h
  | .getstatic _ => some (pc + 3, lv, .inr (.inr (.inr 101)) :: st, h)
  | .iaload => av_ald sc [20] pc lv st h
  | .baload => av_ald sc [21, 22] pc lv st h
  | .aaload => av_aald pc lv st h
  | .iastore => av_iast pc lv st h
  | .bastore => av_bast pc lv st h
  | .aastore => av_aast pc lv st h
  | .arraylength => av_alen sc pc lv st h
  | .newarray t => av_newa t pc lv st h
  | .anewarray _ => av_anew e.2.2.1 pc lv st h
  | .multianewarray _ _ => av_mnew pc lv st h
  | .new _ => some (pc + 3, lv, .inr (.inr (.inl (some h.1))) :: st, av_newO e.2.2.1 (av_N e.2.2.1) h)
  | .checkcast _ => (match st with
    | .inr (.inr (.inl (some o))) :: r => if o < h.1 ∧ (h.2.2.1 o).1 = 20 then some (pc + 3, lv, .inr (.inr (.inl (some o))) :: r, h) else none
    | _ => none)
  | .invokevirtual _ => av_lib e.2.2.1 pc lv st h
  | .invokespecial _ => av_lib e.2.2.1 pc lv st h
  | .invokestatic _ => av_lib e.2.2.1 pc lv st h
  | _ => none
/-- 0 a step of its own, 1 a return, 2 a call -/
def av_kd (e : av_E) : Nat := match e.1 with
  | .ireturn => 1
  | .areturn => 1
  | .return_ => 1
  | .invokevirtual _ => if e.2.2.1 < 1000 then 2 else 0
  | .invokespecial _ => if e.2.2.1 < 1000 then 2 else 0
  | .invokestatic _ => if e.2.2.1 < 1000 then 2 else 0
  | _ => 0
def av_ret (e : av_E) (st : List av_V) (h : av_H) : Option (Option av_V × av_H) := match e.1, st with
  | .return_, [] => some (none, h)
  | .ireturn, [.inl x] => if e.2.2.1 = 0 ∨ x = 0 ∨ x = 1 then some (some (.inl x), h) else none
  | .areturn, [.inr (.inr (.inl v))] => some (some (.inr (.inr (.inl v))), h)
  | _, _ => none
/-- a call's values (the receiver first) and what is left below; b: how many arguments, c: 0 an object of the row k, 1 a constructor, 2 static -/
def av_pop (e : av_E) (st : List av_V) (h : av_H) : Option (List av_V × List av_V) :=
  if e.2.2.2.1 ≤ st.length then
    (match e.2.2.2.2.1, st.drop e.2.2.2.1 with
    | 2, r => if (r.map av_cat).sum ≤ 8 then some ((st.take e.2.2.2.1).reverse, r) else none
    | _, .inr (.inr (.inl (some o))) :: r => if (r.map av_cat).sum ≤ 8 ∧ o < h.1 ∧ ((h.2.2.1 o).1 : Int) = e.2.2.2.2.2 then some (.inr (.inr (.inl (some o))) :: (st.take e.2.2.2.1).reverse, r) else none
    | _, _ => none)
  else none
/-- a method's locals at its entry -/
def av_args : List av_V → av_L
  | [] => []
  | v :: vs => if av_cat v = 2 then some v :: none :: av_args vs else some v :: av_args vs
def av_ent (n : Nat) (vs : List av_V) : av_L := av_args vs ++ List.replicate (n - (av_args vs).length) none
/-- a program: of each method how many locals, and its code -/
abbrev av_P : Type := Nat → Option (Nat × List (Nat × av_E))
/-- fuel, the method's code, the place, locals, stack, heap: what comes back -/
def av_run (P : av_P) : av_Sr → Nat → List (Nat × av_E) → Nat → av_L → List av_V → av_H → Option (Option av_V × av_H)
  | _, 0, _, _, _, _, _ => none
  | sc, n + 1, cd, pc, lv, st, h =>
    match cd.lookup pc with
    | none => none
    | some e =>
      match av_kd e with
      | 0 => (match av_stp sc e pc lv st h with
        | none => none
        | some (pc', lv', st', h') => av_run P sc n cd pc' lv' st' h')
      | 1 => av_ret e st h
      | _ => (match P e.2.2.1, av_pop e st h with
        | some M, some (vs, r) =>
          if (av_args vs).length ≤ M.1 then
            (match av_run P none n M.2 0 (av_ent M.1 vs) [] h with
            | none => none
            | some (v, h') => av_run P sc n cd (pc + 3) lv (v.toList ++ r) h')
          else none
        | _, _ => none)
end
section
/-! HOW THE SMALL MACHINE STANDS TO THE MACHINE -/
def av_ev (z : Nat) (kr : Nat → Nat) : av_V → Value
  | .inl x => .int (Int32.ofInt x)
  | .inr (.inl x) => .long (Int64.ofInt x)
  | .inr (.inr (.inl r)) => va_rf (r.map (fun k => z + k))
  | .inr (.inr (.inr k)) => .ref (kr k)
theorem av_ev_cat (z : Nat) (kr : Nat → Nat) (v : av_V) : (av_ev z kr v).category = av_cat v := by
  rcases v with x | x | (_ | k) | k <;> rfl
def av_tg : FieldType → Nat
  | .long => 1
  | .object _ => 2
  | .array _ => 2
  | .boolean => 3
  | _ => 0
def av_fv (z : Nat) (h : av_H) (ty : FieldType) (o k : Nat) : Value := match av_tg ty with
  | 1 => .long (Int64.ofInt (h.2.2.2.2.1 o k))
  | 2 => va_rf ((h.2.2.2.2.2.1 o k).map (fun k => z + k))
  | _ => .int (Int32.ofInt (h.2.2.2.2.1 o k))
def av_at (z : Nat) (D : va_G) (TY : Nat → ClassId) (h : av_H) (k : Nat) (H : Heap) : Prop :=
  if (h.2.2.1 k).1 < 9 then t_OB (z + k) (D.1 (h.2.2.1 k).1) (av_N (h.2.2.1 k).1) (D.2 (h.2.2.1 k).1) H (fun j => av_fv z h (av_ty (h.2.2.1 k).1 j) k j)
  else if (h.2.2.1 k).1 < 30 then H[z + k]? = some (arrV (TY (h.2.2.1 k).1) (h.2.2.1 k).2 (fun j => .int (Int32.ofInt (h.2.2.2.1 k j))))
  else H[z + k]? = some (arrV (TY (h.2.2.1 k).1) (h.2.2.1 k).2 (fun j => va_rf ((h.2.2.2.2.2.2.1 k j).map (fun k => z + k))))
def av_R (s0 : State) (D : va_G) (TY : Nat → ClassId) (_ : av_Sr) (h : av_H) (H : Heap) : Prop :=
  H.size = s0.heap.size + h.1 ∧ (∀ q : Nat, q < s0.heap.size → H[q]? = s0.heap[q]?) ∧ True ∧ ∀ k : Nat, k < h.1 → av_at s0.heap.size D TY h k H
def av_ft : Nat → FieldType := fun k => match k with
  | 20 => .int
  | 21 => .byte
  | 22 => .boolean
  | 30 => .object RX1
  | 31 => .object RX5
  | _ => .array .int
/-- what holds of the start: the tables' words, the rows of objects, of arrays -/
def av_Z (a0 : Array Value) (s0 : State) (D : va_G) (TY : Nat → ClassId) : Prop :=
  (∀ w ∈ lw_tbl, w.before a0 s0 = true) ∧ (∀ ci, ci < 9 → u_Kn s0 (av_cn ci) (av_T ci) (av_N ci) (D.1 ci) (D.2 ci)) ∧ ∀ k ∈ [20, 21, 22, 30, 31, 32], ArrOfT s0 (TY k) (av_ft k) ∧ va_RA s0 (TY k) (av_ft k)
def av_Lr (z : Nat) (kr : Nat → Nat) (ls : Array Slot) (nL : Nat) (lv : av_L) : Prop :=
  ls.size = nL ∧ lv.length = nL ∧ lv_wf ls ∧ ∀ (i : Nat) (v : av_V), lv[i]? = some (some v) → ls[i]? = some (.val (av_ev z kr v))
def av_lst (z : Nat) (kr : Nat → Nat) (lv : av_L) : List (Nat × Value) := (List.range lv.length).filterMap (fun i => ((lv[i]?).join).map (fun v => (i, av_ev z kr v)))
theorem av_lst_mem {z : Nat} {kr : Nat → Nat} {lv : av_L} {q : Nat × Value} : q ∈ av_lst z kr lv ↔ ∃ v, lv[q.1]? = some (some v) ∧ q.2 = av_ev z kr v := by
  unfold av_lst
  rw [List.mem_filterMap]
  constructor
  · rintro ⟨i, hi, h⟩
    rw [Option.map_eq_some_iff] at h
    obtain ⟨v, h1, h2⟩ := h
    subst h2
    refine ⟨v, ?_, rfl⟩
    rw [Option.join_eq_some_iff] at h1
    exact h1
  · rintro ⟨v, h1, h2⟩
    refine ⟨q.1, List.mem_range.mpr (List.getElem?_eq_some_iff.mp h1).1, ?_⟩
    rw [h1]
    simp [h2.symm]
theorem av_toHas {z : Nat} {kr : Nat → Nat} {ls : Array Slot} {nL : Nat} {lv : av_L} (h : av_Lr z kr ls nL lv) : lv_has ls nL (av_lst z kr lv) := by
  refine ⟨h.1, h.2.2.1, fun q hq => ?_⟩
  obtain ⟨v, h1, h2⟩ := av_lst_mem.mp hq
  rw [h2]
  exact h.2.2.2 _ _ h1
theorem av_sto_eq {lv lv' : av_L} {i : Nat} {v : av_V} (h : av_sto lv i v = some lv') : i < lv.length ∧ lv' = lv.set i (some v) ∧ ∀ (j : Nat) (u : av_V), j + 1 = i → lv[j]? = some (some u) → av_cat u = 1 := by
  cases i with
  | zero =>
    simp only [av_sto] at h
    split at h
    · next h0 => exact ⟨h0, (Option.some.inj h).symm, fun j u hj => by omega⟩
    · cases h
  | succ j =>
    simp only [av_sto] at h
    split at h
    · next h0 =>
      split at h
      · cases h
      · next h1 =>
        refine ⟨h0, (Option.some.inj h).symm, fun j' u hj hu => ?_⟩
        have : j' = j := by omega
        subst this
        rw [hu] at h1
        rcases u with x | x | (_ | k) | k
        · rfl
        · exact absurd rfl h1
        · rfl
        · rfl
        · rfl
    · cases h
theorem av_ofHas {z : Nat} {kr : Nat → Nat} {ls : Array Slot} {nL : Nat} {lv lv' : av_L} {i : Nat} {v : av_V} (hL : lv.length = nL) (hs : av_sto lv i v = some lv')
    (h : lv_has ls nL ((i, av_ev z kr v) :: (av_lst z kr lv).filter (fun q => !(q.1 == i) && !(q.1 + 1 == i && q.2.category == 2)))) : av_Lr z kr ls nL lv' := by
  obtain ⟨h1, h2, h3⟩ := av_sto_eq hs
  subst h2
  refine ⟨h.1, by rw [List.length_set]; exact hL, h.2.1, fun j u hj => ?_⟩
  by_cases e : j = i
  · subst e
    rw [List.getElem?_set_self h1] at hj
    cases hj
    exact h.2.2 (j, av_ev z kr v) List.mem_cons_self
  · rw [List.getElem?_set_ne (Ne.symm e)] at hj
    refine h.2.2 (j, av_ev z kr u) (List.mem_cons_of_mem _ (List.mem_filter.mpr ⟨av_lst_mem.mpr ⟨u, hj, rfl⟩, ?_⟩))
    have e2 : ¬ (j + 1 = i ∧ (av_ev z kr u).category = 2) := by
      rintro ⟨q1, q2⟩
      rw [av_ev_cat, h3 j u q1 hj] at q2
      cases q2
    simp only [Bool.and_eq_true, Bool.not_eq_true', beq_eq_false_iff_ne, ne_eq, Bool.and_eq_false_iff]
    refine ⟨e, ?_⟩
    by_cases q1 : j + 1 = i
    · exact Or.inr (fun q2 => e2 ⟨q1, q2⟩)
    · exact Or.inl q1
-- numbers
theorem av_w_eq (x : Int) : (Int32.ofInt x).toInt = av_w x := by
  rw [Int32.toInt_ofInt]; rfl
theorem av_wl_eq (x : Int) : (Int64.ofInt x).toInt = av_wl x := by
  rw [Int64.toInt_ofInt]; rfl
theorem av_of_toInt (x : Int32) : Int32.ofInt x.toInt = x := Int32.ofInt_toInt x
theorem av_lt (x y : Int) : Int32.ofInt x < Int32.ofInt y ↔ av_w x < av_w y := by
  rw [Int32.lt_iff_toInt_lt, av_w_eq, av_w_eq]
theorem av_le (x y : Int) : Int32.ofInt x ≤ Int32.ofInt y ↔ av_w x ≤ av_w y := by
  rw [Int32.le_iff_toInt_le, av_w_eq, av_w_eq]
theorem av_eq (x y : Int) : Int32.ofInt x = Int32.ofInt y ↔ av_w x = av_w y := by
  rw [← Int32.toInt_inj, av_w_eq, av_w_eq]
theorem av_lt0 (x : Int) : Int32.ofInt x < 0 ↔ av_w x < 0 := by
  have h := av_lt x 0
  rw [show av_w 0 = 0 from rfl, show Int32.ofInt 0 = 0 from rfl] at h
  exact h
theorem av_nat (x : Int) : (Int32.ofInt x).toNatClampNeg = (av_w x).toNat := by
  show (Int32.ofInt x).toInt.toNat = _
  rw [av_w_eq]
theorem av_inP {i : Int} {n : Nat} (h : av_inB i n = true) : ¬ (Int32.ofInt i < 0 ∨ n ≤ (Int32.ofInt i).toNatClampNeg) ∧ (av_w i).toNat < n := by
  simp only [av_inB, Bool.and_eq_true, decide_eq_true_eq] at h
  rw [av_lt0, av_nat]
  omega
theorem av_ofw (x : Int) : Int32.ofInt (av_w x) = Int32.ofInt x := by
  rw [← av_w_eq, Int32.ofInt_toInt]
theorem av_tdiv (x y : Int) : Int32.ofInt ((av_w x).tdiv (av_w y)) = Int32.ofInt x / Int32.ofInt y := by
  rw [← Int32.toInt_inj, Int32.toInt_div, Int32.toInt_ofInt, av_w_eq, av_w_eq]
theorem av_tmod (x y : Int) : Int32.ofInt ((av_w x).tmod (av_w y)) = Int32.ofInt x - Int32.ofInt x / Int32.ofInt y * Int32.ofInt y := by
  rw [← av_tdiv, Int.tmod_def, Int32.ofInt_sub, Int32.ofInt_mul, av_ofw, av_ofw, Int32.mul_comm]
theorem av_byte (x : Int) : Int32.ofInt (av_b x) = (Int32.ofInt x).toInt8.toInt32 := by
  rw [← Int32.toInt_inj]
  simp only [av_b, Int32.toInt_ofInt, Int8.toInt_toInt32, Int32.toInt_toInt8]
  have h1 := Int.le_bmod (x := x) (m := 256) (by omega)
  have h2 := Int.bmod_lt (x := x) (m := 256) (by omega)
  show (x.bmod 256).bmod 4294967296 = (x.bmod 4294967296).bmod 256
  rw [Int.bmod_eq_of_le (n := x.bmod 256) (by omega) (by omega), Int.bmod_bmod_of_dvd (by omega)]
end
section
/-! ONE STEP OF THE SMALL MACHINE, A ROW OF THE KIT: what changes no cell -/
section AVS
variable {p : Program} {l : Launch} {e : Env} {R : Room} {s : State} {m : MethodId} {args : Array Value} {below : List Frame} {meth : Method} {c : Code} {Q : State → Prop}
variable {a0 : Array Value} {s0 : State} {D : va_G} {TY : Nat → ClassId} {kr : Nat → Nat} {sc : av_Sr} {own nL : Nat} {cc : ByteArray} {ini : Bool} {h0 hf h h' : av_H} {pc pc' : Nat} {lv lv' : av_L} {st st' : List av_V}
/-- from every state of the machine that stands so to this state of the small one, Q is reached -/
def av_W (p : Program) (l : Launch) (e : Env) (R : Room) (s : State) (m : MethodId) (args : Array Value) (below : List Frame) (meth : Method) (c : Code) (Q : State → Prop) (s0 : State) (D : va_G) (TY : Nat → ClassId) (kr : Nat → Nat) (sc : av_Sr) (nL : Nat) (h0 : av_H) (pc : Nat) (lv : av_L) (st : List av_V) (h : av_H) : Prop :=
  ∀ (H : Heap) (locs : List Loc) (ls : Array Slot), av_R s0 D TY sc h H → (∀ q ∈ locs, s0.heap.size ≤ q.base) → av_Lr s0.heap.size kr ls nL lv → h0.1 ≤ h.1 → h0.2.1 ≤ h.2.1 →
    W p l e R s m args below meth c H locs (h.1 - h0.1) (h.2.1 - h0.2.1) Q (F0 m pc ls (st.map (av_ev s0.heap.size kr)))
/-- what a method's body knows -/
def av_Cx (p : Program) (R : Room) (s : State) (m : MethodId) (meth : Method) (c : Code) (a0 : Array Value) (s0 : State) (D : va_G) (TY : Nat → ClassId) (own nL : Nat) (cc : ByteArray) (ini : Bool) (h0 hf : av_H) : Prop :=
  p.tables.exec = Jvm.exec ∧ c.code = cc ∧ c.maxLocals = nL ∧ s.vm.findClass (av_cn own) = some m.cls ∧ s0.WarmedH s.vm ∧ av_Z a0 s0 D TY ∧ (ini = true → meth.name = "<init>") ∧ hf.1 - h0.1 ≤ R.cells ∧ hf.2.1 - h0.2.1 ≤ R.slots
theorem av_s_iconst {n : Int} (C : av_Cx p R s m meth c a0 s0 D TY own nL cc ini h0 hf) (hd : decode cc pc = .ok (.iconst n, 1)) (k : av_W p l e R s m args below meth c Q s0 D TY kr sc nL h0 (pc + 1) lv (.inl n :: st) h) : av_W p l e R s m args below meth c Q s0 D TY kr sc nL h0 pc lv st h :=
  fun H locs ls hR hl hL h1 h2 => lv_iconst C.1 C.2.1 hd rfl (k H locs ls hR hl hL h1 h2)
theorem av_s_bipush {n : Int} (C : av_Cx p R s m meth c a0 s0 D TY own nL cc ini h0 hf) (hd : decode cc pc = .ok (.bipush n, 2)) (hn : (Int8.ofInt n).toInt32 = Int32.ofInt n) (k : av_W p l e R s m args below meth c Q s0 D TY kr sc nL h0 (pc + 2) lv (.inl n :: st) h) : av_W p l e R s m args below meth c Q s0 D TY kr sc nL h0 pc lv st h :=
  fun H locs ls hR hl hL h1 h2 => lv_bipush C.1 C.2.1 hd hn (k H locs ls hR hl hL h1 h2)
theorem av_s_sipush {n : Int} (C : av_Cx p R s m meth c a0 s0 D TY own nL cc ini h0 hf) (hd : decode cc pc = .ok (.sipush n, 3)) (hn : (Int16.ofInt n).toInt32 = Int32.ofInt n) (k : av_W p l e R s m args below meth c Q s0 D TY kr sc nL h0 (pc + 3) lv (.inl n :: st) h) : av_W p l e R s m args below meth c Q s0 D TY kr sc nL h0 pc lv st h :=
  fun H locs ls hR hl hL h1 h2 => lv_sipush C.1 C.2.1 hd hn (k H locs ls hR hl hL h1 h2)
theorem av_s_lconst {n : Fin 2} (C : av_Cx p R s m meth c a0 s0 D TY own nL cc ini h0 hf) (hd : decode cc pc = .ok (.lconst n, 1)) (k : av_W p l e R s m args below meth c Q s0 D TY kr sc nL h0 (pc + 1) lv (.inr (.inl (n.val : Int)) :: st) h) : av_W p l e R s m args below meth c Q s0 D TY kr sc nL h0 pc lv st h :=
  fun H locs ls hR hl hL h1 h2 => lv_lconst C.1 C.2.1 hd (by rcases n with ⟨_ | _ | n, hn⟩ <;> first | rfl | omega) (k H locs ls hR hl hL h1 h2)
theorem av_s_null (C : av_Cx p R s m meth c a0 s0 D TY own nL cc ini h0 hf) (hd : decode cc pc = .ok (.aconst_null, 1)) (k : av_W p l e R s m args below meth c Q s0 D TY kr sc nL h0 (pc + 1) lv (.inr (.inr (.inl none)) :: st) h) : av_W p l e R s m args below meth c Q s0 D TY kr sc nL h0 pc lv st h :=
  fun H locs ls hR hl hL h1 h2 => lv_null C.1 C.2.1 hd (k H locs ls hR hl hL h1 h2)
theorem av_join {lv : av_L} {i : Nat} {v : av_V} (h : (lv[i]?).join = some v) : lv[i]? = some (some v) := by
  rw [Option.join_eq_some_iff] at h
  exact h
theorem av_s_iload_n {i : Fin 4} (C : av_Cx p R s m meth c a0 s0 D TY own nL cc ini h0 hf) (hd : decode cc pc = .ok (.iload_n i, 1)) (hs : av_ldi i.val 1 pc lv st h = some (pc', lv', st', h')) (k : av_W p l e R s m args below meth c Q s0 D TY kr sc nL h0 pc' lv' st' h') : av_W p l e R s m args below meth c Q s0 D TY kr sc nL h0 pc lv st h := by
  intro H locs ls hR hl hL h1 h2
  unfold av_ldi at hs
  split at hs
  · next x hx =>
    cases hs
    exact lv_iload_n C.1 C.2.1 hd rfl (hL.2.2.2 _ _ (av_join hx)) (k H locs ls hR hl hL h1 h2)
  · cases hs
theorem av_s_iload {i : Nat} (C : av_Cx p R s m meth c a0 s0 D TY own nL cc ini h0 hf) (hd : decode cc pc = .ok (.iload i, 2)) (hs : av_ldi i 2 pc lv st h = some (pc', lv', st', h')) (k : av_W p l e R s m args below meth c Q s0 D TY kr sc nL h0 pc' lv' st' h') : av_W p l e R s m args below meth c Q s0 D TY kr sc nL h0 pc lv st h := by
  intro H locs ls hR hl hL h1 h2
  unfold av_ldi at hs
  split at hs
  · next x hx =>
    cases hs
    exact lv_iload C.1 C.2.1 hd (hL.2.2.2 _ _ (av_join hx)) (k H locs ls hR hl hL h1 h2)
  · cases hs
theorem av_s_lload_n {i : Fin 4} (C : av_Cx p R s m meth c a0 s0 D TY own nL cc ini h0 hf) (hd : decode cc pc = .ok (.lload_n i, 1)) (hs : av_ldl i.val 1 pc lv st h = some (pc', lv', st', h')) (k : av_W p l e R s m args below meth c Q s0 D TY kr sc nL h0 pc' lv' st' h') : av_W p l e R s m args below meth c Q s0 D TY kr sc nL h0 pc lv st h := by
  intro H locs ls hR hl hL h1 h2
  unfold av_ldl at hs
  split at hs
  · next x hx =>
    cases hs
    exact lv_lload_n C.1 C.2.1 hd rfl (hL.2.2.2 _ _ (av_join hx)) (k H locs ls hR hl hL h1 h2)
  · cases hs
theorem av_s_lload {i : Nat} (C : av_Cx p R s m meth c a0 s0 D TY own nL cc ini h0 hf) (hd : decode cc pc = .ok (.lload i, 2)) (hs : av_ldl i 2 pc lv st h = some (pc', lv', st', h')) (k : av_W p l e R s m args below meth c Q s0 D TY kr sc nL h0 pc' lv' st' h') : av_W p l e R s m args below meth c Q s0 D TY kr sc nL h0 pc lv st h := by
  intro H locs ls hR hl hL h1 h2
  unfold av_ldl at hs
  split at hs
  · next x hx =>
    cases hs
    exact lv_lload C.1 C.2.1 hd (hL.2.2.2 _ _ (av_join hx)) (k H locs ls hR hl hL h1 h2)
  · cases hs
theorem av_s_aload_n {i : Fin 4} (C : av_Cx p R s m meth c a0 s0 D TY own nL cc ini h0 hf) (hd : decode cc pc = .ok (.aload_n i, 1)) (hs : av_lda i.val 1 pc lv st h = some (pc', lv', st', h')) (k : av_W p l e R s m args below meth c Q s0 D TY kr sc nL h0 pc' lv' st' h') : av_W p l e R s m args below meth c Q s0 D TY kr sc nL h0 pc lv st h := by
  intro H locs ls hR hl hL h1 h2
  unfold av_lda at hs
  split at hs
  · next v hx =>
    cases hs
    have hv := hL.2.2.2 _ _ (av_join hx)
    have kk := k H locs ls hR hl hL h1 h2
    rcases v with (_ | o) | q
    · exact lv_aload_nN C.1 C.2.1 hd rfl hv kk
    · exact lv_aload_n C.1 C.2.1 hd rfl hv kk
    · exact lv_aload_n C.1 C.2.1 hd rfl hv kk
  · cases hs
theorem av_s_aload {i : Nat} (C : av_Cx p R s m meth c a0 s0 D TY own nL cc ini h0 hf) (hd : decode cc pc = .ok (.aload i, 2)) (hs : av_lda i 2 pc lv st h = some (pc', lv', st', h')) (k : av_W p l e R s m args below meth c Q s0 D TY kr sc nL h0 pc' lv' st' h') : av_W p l e R s m args below meth c Q s0 D TY kr sc nL h0 pc lv st h := by
  intro H locs ls hR hl hL h1 h2
  unfold av_lda at hs
  split at hs
  · next v hx =>
    cases hs
    have hv := hL.2.2.2 _ _ (av_join hx)
    have kk := k H locs ls hR hl hL h1 h2
    rcases v with (_ | o) | q
    · exact lv_aloadN C.1 C.2.1 hd hv kk
    · exact lv_aload C.1 C.2.1 hd hv kk
    · exact lv_aload C.1 C.2.1 hd hv kk
  · cases hs
theorem av_s_istore_n {i : Fin 4} (C : av_Cx p R s m meth c a0 s0 D TY own nL cc ini h0 hf) (hd : decode cc pc = .ok (.istore_n i, 1)) (hs : av_sti i.val 1 pc lv st h = some (pc', lv', st', h')) (k : av_W p l e R s m args below meth c Q s0 D TY kr sc nL h0 pc' lv' st' h') : av_W p l e R s m args below meth c Q s0 D TY kr sc nL h0 pc lv st h := by
  intro H locs ls hR hl hL h1 h2
  unfold av_sti at hs
  split at hs
  · next x r =>
    rw [Option.map_eq_some_iff] at hs
    obtain ⟨lv1, hst, he⟩ := hs
    cases he
    exact lv_istore_n C.1 C.2.1 hd rfl (av_toHas hL) (by rw [← hL.2.1]; exact (av_sto_eq hst).1) rfl (fun ls' hh => k H locs ls' hR hl (av_ofHas hL.2.1 hst hh) h1 h2)
  · cases hs
theorem av_s_istore {i : Nat} (C : av_Cx p R s m meth c a0 s0 D TY own nL cc ini h0 hf) (hd : decode cc pc = .ok (.istore i, 2)) (hs : av_sti i 2 pc lv st h = some (pc', lv', st', h')) (k : av_W p l e R s m args below meth c Q s0 D TY kr sc nL h0 pc' lv' st' h') : av_W p l e R s m args below meth c Q s0 D TY kr sc nL h0 pc lv st h := by
  intro H locs ls hR hl hL h1 h2
  unfold av_sti at hs
  split at hs
  · next x r =>
    rw [Option.map_eq_some_iff] at hs
    obtain ⟨lv1, hst, he⟩ := hs
    cases he
    exact lv_istore C.1 C.2.1 hd (av_toHas hL) (by rw [← hL.2.1]; exact (av_sto_eq hst).1) rfl (fun ls' hh => k H locs ls' hR hl (av_ofHas hL.2.1 hst hh) h1 h2)
  · cases hs
theorem av_s_astore_n {i : Fin 4} (C : av_Cx p R s m meth c a0 s0 D TY own nL cc ini h0 hf) (hd : decode cc pc = .ok (.astore_n i, 1)) (hs : av_sta i.val 1 pc lv st h = some (pc', lv', st', h')) (k : av_W p l e R s m args below meth c Q s0 D TY kr sc nL h0 pc' lv' st' h') : av_W p l e R s m args below meth c Q s0 D TY kr sc nL h0 pc lv st h := by
  intro H locs ls hR hl hL h1 h2
  unfold av_sta at hs
  split at hs
  · next v r =>
    rw [Option.map_eq_some_iff] at hs
    obtain ⟨lv1, hst, he⟩ := hs
    cases he
    have hi : i.val < nL := by rw [← hL.2.1]; exact (av_sto_eq hst).1
    rcases v with (_ | o) | q
    · exact lv_astore_nN C.1 C.2.1 hd rfl (av_toHas hL) hi rfl (fun ls' hh => k H locs ls' hR hl (av_ofHas hL.2.1 hst hh) h1 h2)
    · exact lv_astore_n C.1 C.2.1 hd rfl (av_toHas hL) hi rfl (fun ls' hh => k H locs ls' hR hl (av_ofHas hL.2.1 hst hh) h1 h2)
    · exact lv_astore_n C.1 C.2.1 hd rfl (av_toHas hL) hi rfl (fun ls' hh => k H locs ls' hR hl (av_ofHas hL.2.1 hst hh) h1 h2)
  · cases hs
theorem av_s_astore {i : Nat} (C : av_Cx p R s m meth c a0 s0 D TY own nL cc ini h0 hf) (hd : decode cc pc = .ok (.astore i, 2)) (hs : av_sta i 2 pc lv st h = some (pc', lv', st', h')) (k : av_W p l e R s m args below meth c Q s0 D TY kr sc nL h0 pc' lv' st' h') : av_W p l e R s m args below meth c Q s0 D TY kr sc nL h0 pc lv st h := by
  intro H locs ls hR hl hL h1 h2
  unfold av_sta at hs
  split at hs
  · next v r =>
    rw [Option.map_eq_some_iff] at hs
    obtain ⟨lv1, hst, he⟩ := hs
    cases he
    have hi : i < nL := by rw [← hL.2.1]; exact (av_sto_eq hst).1
    rcases v with (_ | o) | q
    · exact lv_astoreN C.1 C.2.1 hd (av_toHas hL) hi rfl (fun ls' hh => k H locs ls' hR hl (av_ofHas hL.2.1 hst hh) h1 h2)
    · exact lv_astore C.1 C.2.1 hd (av_toHas hL) hi rfl (fun ls' hh => k H locs ls' hR hl (av_ofHas hL.2.1 hst hh) h1 h2)
    · exact lv_astore C.1 C.2.1 hd (av_toHas hL) hi rfl (fun ls' hh => k H locs ls' hR hl (av_ofHas hL.2.1 hst hh) h1 h2)
  · cases hs
theorem av_s_iinc {i : Nat} {n : Int} (C : av_Cx p R s m meth c a0 s0 D TY own nL cc ini h0 hf) (hd : decode cc pc = .ok (.iinc i n, 3)) (hs : av_iinc i n pc lv st h = some (pc', lv', st', h')) (k : av_W p l e R s m args below meth c Q s0 D TY kr sc nL h0 pc' lv' st' h') : av_W p l e R s m args below meth c Q s0 D TY kr sc nL h0 pc lv st h := by
  intro H locs ls hR hl hL h1 h2
  unfold av_iinc at hs
  split at hs
  · next x hx =>
    rw [Option.map_eq_some_iff] at hs
    obtain ⟨lv1, hst, he⟩ := hs
    cases he
    have hi : i < nL := by rw [← hL.2.1]; exact (av_sto_eq hst).1
    obtain ⟨k0, hk0⟩ := List.getElem?_of_mem (av_lst_mem (z := s0.heap.size) (kr := kr) (q := (i, Value.int (Int32.ofInt x))) |>.mpr ⟨.inl x, av_join hx, rfl⟩)
    exact lv_iinc C.1 C.2.1 hd (av_toHas hL) hk0 (v := Int32.ofInt (x + n)) (Int32.ofInt_add x n).symm hi rfl (fun ls' hh => k H locs ls' hR hl (av_ofHas hL.2.1 hst hh) h1 h2)
  · cases hs
end AVS
end
section
/-! ONE STEP: sums, jumps, the stack -/
section AVA
variable {p : Program} {l : Launch} {e : Env} {R : Room} {s : State} {m : MethodId} {args : Array Value} {below : List Frame} {meth : Method} {c : Code} {Q : State → Prop}
variable {a0 : Array Value} {s0 : State} {D : va_G} {TY : Nat → ClassId} {kr : Nat → Nat} {sc : av_Sr} {own nL : Nat} {cc : ByteArray} {ini : Bool} {h0 hf h h' : av_H} {pc pc' : Nat} {lv lv' : av_L} {st st' : List av_V}

theorem av_s_iadd (C : av_Cx p R s m meth c a0 s0 D TY own nL cc ini h0 hf) (hd : decode cc pc = .ok (.iadd, 1)) (hs : av_bin (fun x y => x + y) pc lv st h = some (pc', lv', st', h')) (k : av_W p l e R s m args below meth c Q s0 D TY kr sc nL h0 pc' lv' st' h') : av_W p l e R s m args below meth c Q s0 D TY kr sc nL h0 pc lv st h := by
  intro H locs ls hR hl hL h1 h2
  unfold av_bin at hs
  split at hs
  · next y x r =>
    cases hs
    have kk := k H locs ls hR hl hL h1 h2
    refine lv_iadd C.1 C.2.1 hd (lv_topi (fun v hv => ?_))
    have hv : v = Int32.ofInt ((fun x y => x + y) x y) := hv.trans (((Int32.ofInt_add x y).symm).symm).symm
    subst hv
    exact kk
  · cases hs
theorem av_s_isub (C : av_Cx p R s m meth c a0 s0 D TY own nL cc ini h0 hf) (hd : decode cc pc = .ok (.isub, 1)) (hs : av_bin (fun x y => x - y) pc lv st h = some (pc', lv', st', h')) (k : av_W p l e R s m args below meth c Q s0 D TY kr sc nL h0 pc' lv' st' h') : av_W p l e R s m args below meth c Q s0 D TY kr sc nL h0 pc lv st h := by
  intro H locs ls hR hl hL h1 h2
  unfold av_bin at hs
  split at hs
  · next y x r =>
    cases hs
    have kk := k H locs ls hR hl hL h1 h2
    refine lv_isub C.1 C.2.1 hd (lv_topi (fun v hv => ?_))
    have hv : v = Int32.ofInt ((fun x y => x - y) x y) := hv.trans (((Int32.ofInt_sub x y).symm).symm).symm
    subst hv
    exact kk
  · cases hs
theorem av_s_imul (C : av_Cx p R s m meth c a0 s0 D TY own nL cc ini h0 hf) (hd : decode cc pc = .ok (.imul, 1)) (hs : av_bin (fun x y => x * y) pc lv st h = some (pc', lv', st', h')) (k : av_W p l e R s m args below meth c Q s0 D TY kr sc nL h0 pc' lv' st' h') : av_W p l e R s m args below meth c Q s0 D TY kr sc nL h0 pc lv st h := by
  intro H locs ls hR hl hL h1 h2
  unfold av_bin at hs
  split at hs
  · next y x r =>
    cases hs
    have kk := k H locs ls hR hl hL h1 h2
    refine lv_imul C.1 C.2.1 hd (lv_topi (fun v hv => ?_))
    have hv : v = Int32.ofInt ((fun x y => x * y) x y) := hv.trans (((Int32.ofInt_mul x y).symm).symm).symm
    subst hv
    exact kk
  · cases hs
theorem av_s_iand (C : av_Cx p R s m meth c a0 s0 D TY own nL cc ini h0 hf) (hd : decode cc pc = .ok (.iand, 1)) (hs : av_bin av_and pc lv st h = some (pc', lv', st', h')) (k : av_W p l e R s m args below meth c Q s0 D TY kr sc nL h0 pc' lv' st' h') : av_W p l e R s m args below meth c Q s0 D TY kr sc nL h0 pc lv st h := by
  intro H locs ls hR hl hL h1 h2
  unfold av_bin at hs
  split at hs
  · next y x r =>
    cases hs
    have kk := k H locs ls hR hl hL h1 h2
    refine lv_iand C.1 C.2.1 hd (lv_topi (fun v hv => ?_))
    have hv : v = Int32.ofInt (av_and x y) := hv.trans (((Int32.ofInt_toInt _).symm).symm).symm
    subst hv
    exact kk
  · cases hs
theorem av_s_ior (C : av_Cx p R s m meth c a0 s0 D TY own nL cc ini h0 hf) (hd : decode cc pc = .ok (.ior, 1)) (hs : av_bin av_or pc lv st h = some (pc', lv', st', h')) (k : av_W p l e R s m args below meth c Q s0 D TY kr sc nL h0 pc' lv' st' h') : av_W p l e R s m args below meth c Q s0 D TY kr sc nL h0 pc lv st h := by
  intro H locs ls hR hl hL h1 h2
  unfold av_bin at hs
  split at hs
  · next y x r =>
    cases hs
    have kk := k H locs ls hR hl hL h1 h2
    refine lv_ior C.1 C.2.1 hd (lv_topi (fun v hv => ?_))
    have hv : v = Int32.ofInt (av_or x y) := hv.trans (((Int32.ofInt_toInt _).symm).symm).symm
    subst hv
    exact kk
  · cases hs
theorem av_s_ishl (C : av_Cx p R s m meth c a0 s0 D TY own nL cc ini h0 hf) (hd : decode cc pc = .ok (.ishl, 1)) (hs : av_bin av_shl pc lv st h = some (pc', lv', st', h')) (k : av_W p l e R s m args below meth c Q s0 D TY kr sc nL h0 pc' lv' st' h') : av_W p l e R s m args below meth c Q s0 D TY kr sc nL h0 pc lv st h := by
  intro H locs ls hR hl hL h1 h2
  unfold av_bin at hs
  split at hs
  · next y x r =>
    cases hs
    have kk := k H locs ls hR hl hL h1 h2
    refine lv_ishl C.1 C.2.1 hd (lv_topi (fun v hv => ?_))
    have hv : v = Int32.ofInt (av_shl x y) := hv.trans (((Int32.ofInt_toInt _).symm).symm).symm
    subst hv
    exact kk
  · cases hs
theorem av_s_ishr (C : av_Cx p R s m meth c a0 s0 D TY own nL cc ini h0 hf) (hd : decode cc pc = .ok (.ishr, 1)) (hs : av_bin av_shr pc lv st h = some (pc', lv', st', h')) (k : av_W p l e R s m args below meth c Q s0 D TY kr sc nL h0 pc' lv' st' h') : av_W p l e R s m args below meth c Q s0 D TY kr sc nL h0 pc lv st h := by
  intro H locs ls hR hl hL h1 h2
  unfold av_bin at hs
  split at hs
  · next y x r =>
    cases hs
    have kk := k H locs ls hR hl hL h1 h2
    refine lv_ishr C.1 C.2.1 hd (lv_topi (fun v hv => ?_))
    have hv : v = Int32.ofInt (av_shr x y) := hv.trans (((Int32.ofInt_toInt _).symm).symm).symm
    subst hv
    exact kk
  · cases hs
theorem av_s_iushr (C : av_Cx p R s m meth c a0 s0 D TY own nL cc ini h0 hf) (hd : decode cc pc = .ok (.iushr, 1)) (hs : av_bin av_ushr pc lv st h = some (pc', lv', st', h')) (k : av_W p l e R s m args below meth c Q s0 D TY kr sc nL h0 pc' lv' st' h') : av_W p l e R s m args below meth c Q s0 D TY kr sc nL h0 pc lv st h := by
  intro H locs ls hR hl hL h1 h2
  unfold av_bin at hs
  split at hs
  · next y x r =>
    cases hs
    have kk := k H locs ls hR hl hL h1 h2
    exact lv_iushr C.1 C.2.1 hd (v := Int32.ofInt (av_ushr x y)) (Int32.ofInt_toInt _).symm kk
  · cases hs
theorem av_s_idiv {x y : Int} {r : List av_V} (C : av_Cx p R s m meth c a0 s0 D TY own nL cc ini h0 hf) (hd : decode cc pc = .ok (.idiv, 1)) (hy : ¬ av_w y = 0) (k : av_W p l e R s m args below meth c Q s0 D TY kr sc nL h0 (pc + 1) lv (.inl ((av_w x).tdiv (av_w y)) :: r) h) : av_W p l e R s m args below meth c Q s0 D TY kr sc nL h0 pc lv (.inl y :: .inl x :: r) h := by
  intro H locs ls hR hl hL h1 h2
  have kk := k H locs ls hR hl hL h1 h2
  refine lv_idiv C.1 C.2.1 hd (fun q => hy ?_) (lv_topi (fun v hv => ?_))
  · have := (av_eq y 0).mp q
    exact this
  · have hv : v = Int32.ofInt ((av_w x).tdiv (av_w y)) := hv.trans (av_tdiv x y).symm
    subst hv
    exact kk
theorem av_s_irem {x y : Int} {r : List av_V} (C : av_Cx p R s m meth c a0 s0 D TY own nL cc ini h0 hf) (hd : decode cc pc = .ok (.irem, 1)) (hy : ¬ av_w y = 0) (k : av_W p l e R s m args below meth c Q s0 D TY kr sc nL h0 (pc + 1) lv (.inl ((av_w x).tmod (av_w y)) :: r) h) : av_W p l e R s m args below meth c Q s0 D TY kr sc nL h0 pc lv (.inl y :: .inl x :: r) h := by
  intro H locs ls hR hl hL h1 h2
  have kk := k H locs ls hR hl hL h1 h2
  refine lv_irem C.1 C.2.1 hd (fun q => hy ?_) (lv_topi (fun v hv => ?_))
  · have := (av_eq y 0).mp q
    exact this
  · have hv : v = Int32.ofInt ((av_w x).tmod (av_w y)) := hv.trans (av_tmod x y).symm
    subst hv
    exact kk
theorem av_s_ladd {x y : Int} {r : List av_V} (C : av_Cx p R s m meth c a0 s0 D TY own nL cc ini h0 hf) (hd : decode cc pc = .ok (.ladd, 1)) (k : av_W p l e R s m args below meth c Q s0 D TY kr sc nL h0 (pc + 1) lv (.inr (.inl (x + y)) :: r) h) : av_W p l e R s m args below meth c Q s0 D TY kr sc nL h0 pc lv (.inr (.inl y) :: .inr (.inl x) :: r) h := by
  intro H locs ls hR hl hL h1 h2
  have kk := k H locs ls hR hl hL h1 h2
  refine lv_ladd C.1 C.2.1 hd (lv_topl (fun v hv => ?_))
  have hv : v = Int64.ofInt (x + y) := hv.trans (Int64.ofInt_add x y).symm
  subst hv
  exact kk
theorem av_s_lmul {x y : Int} {r : List av_V} (C : av_Cx p R s m meth c a0 s0 D TY own nL cc ini h0 hf) (hd : decode cc pc = .ok (.lmul, 1)) (k : av_W p l e R s m args below meth c Q s0 D TY kr sc nL h0 (pc + 1) lv (.inr (.inl (x * y)) :: r) h) : av_W p l e R s m args below meth c Q s0 D TY kr sc nL h0 pc lv (.inr (.inl y) :: .inr (.inl x) :: r) h := by
  intro H locs ls hR hl hL h1 h2
  have kk := k H locs ls hR hl hL h1 h2
  refine lv_lmul C.1 C.2.1 hd (lv_topl (fun v hv => ?_))
  have hv : v = Int64.ofInt (x * y) := hv.trans (Int64.ofInt_mul x y).symm
  subst hv
  exact kk
theorem av_lcmp (x y : Int) : lg_cmp (Int64.ofInt x) (Int64.ofInt y) = Int32.ofInt (if av_wl y < av_wl x then 1 else if av_wl x = av_wl y then 0 else -1) := by
  have e1 : Int64.ofInt y < Int64.ofInt x ↔ av_wl y < av_wl x := by rw [Int64.lt_iff_toInt_lt, av_wl_eq, av_wl_eq]
  have e2 : Int64.ofInt x = Int64.ofInt y ↔ av_wl x = av_wl y := by rw [← Int64.toInt_inj, av_wl_eq, av_wl_eq]
  unfold lg_cmp
  by_cases q1 : av_wl y < av_wl x
  · simp [e1, q1]
  · by_cases q2 : av_wl x = av_wl y
    · simp [e1, e2, q2]
    · simp [e1, e2, q1, q2]
theorem av_s_lcmp {x y : Int} {r : List av_V} (C : av_Cx p R s m meth c a0 s0 D TY own nL cc ini h0 hf) (hd : decode cc pc = .ok (.lcmp, 1)) (k : av_W p l e R s m args below meth c Q s0 D TY kr sc nL h0 (pc + 1) lv (.inl (if av_wl y < av_wl x then 1 else if av_wl x = av_wl y then 0 else -1) :: r) h) : av_W p l e R s m args below meth c Q s0 D TY kr sc nL h0 pc lv (.inr (.inl y) :: .inr (.inl x) :: r) h := by
  intro H locs ls hR hl hL h1 h2
  have kk := k H locs ls hR hl hL h1 h2
  refine W.lcmp C.1 C.2.1 hd (lv_topi (fun v hv => ?_))
  have hv : v = Int32.ofInt (if av_wl y < av_wl x then 1 else if av_wl x = av_wl y then 0 else -1) := hv.trans (av_lcmp x y)
  subst hv
  exact kk
theorem av_s_i2l {x : Int} {r : List av_V} (C : av_Cx p R s m meth c a0 s0 D TY own nL cc ini h0 hf) (hd : decode cc pc = .ok (.i2l, 1)) (k : av_W p l e R s m args below meth c Q s0 D TY kr sc nL h0 (pc + 1) lv (.inr (.inl (av_w x)) :: r) h) : av_W p l e R s m args below meth c Q s0 D TY kr sc nL h0 pc lv (.inl x :: r) h :=
  fun H locs ls hR hl hL h1 h2 => lv_i2l C.1 C.2.1 hd (v := Int64.ofInt (av_w x)) (by rw [← av_w_eq, ← Int64.toInt_inj, Int32.toInt_toInt64, Int64.toInt_ofInt]; exact (Int.bmod_eq_of_le (by have := Int32.le_toInt (Int32.ofInt x); simp at this ⊢; omega) (by have := Int32.toInt_lt (Int32.ofInt x); simp at this ⊢; omega)).symm) (k H locs ls hR hl hL h1 h2)
theorem av_s_l2i {x : Int} {r : List av_V} (C : av_Cx p R s m meth c a0 s0 D TY own nL cc ini h0 hf) (hd : decode cc pc = .ok (.l2i, 1)) (k : av_W p l e R s m args below meth c Q s0 D TY kr sc nL h0 (pc + 1) lv (.inl x :: r) h) : av_W p l e R s m args below meth c Q s0 D TY kr sc nL h0 pc lv (.inr (.inl x) :: r) h :=
  fun H locs ls hR hl hL h1 h2 => lv_l2i C.1 C.2.1 hd (v := Int32.ofInt x) (by rw [← Int32.toInt_inj, Int64.toInt_toInt32, Int64.toInt_ofInt, Int32.toInt_ofInt]; exact Int.bmod_bmod_of_dvd ⟨4294967296, rfl⟩) (k H locs ls hR hl hL h1 h2)
theorem av_s_i2b {x : Int} {r : List av_V} (C : av_Cx p R s m meth c a0 s0 D TY own nL cc ini h0 hf) (hd : decode cc pc = .ok (.i2b, 1)) (k : av_W p l e R s m args below meth c Q s0 D TY kr sc nL h0 (pc + 1) lv (.inl (av_b x) :: r) h) : av_W p l e R s m args below meth c Q s0 D TY kr sc nL h0 pc lv (.inl x :: r) h :=
  fun H locs ls hR hl hL h1 h2 => lv_i2b C.1 C.2.1 hd (v := Int32.ofInt (av_b x)) (av_byte x).symm (k H locs ls hR hl hL h1 h2)
theorem av_s_dup {v : av_V} {r : List av_V} (C : av_Cx p R s m meth c a0 s0 D TY own nL cc ini h0 hf) (hd : decode cc pc = .ok (.dup, 1)) (hv : av_cat v = 1) (k : av_W p l e R s m args below meth c Q s0 D TY kr sc nL h0 (pc + 1) lv (v :: v :: r) h) : av_W p l e R s m args below meth c Q s0 D TY kr sc nL h0 pc lv (v :: r) h :=
  fun H locs ls hR hl hL h1 h2 => lv_dup C.1 C.2.1 hd (by rw [av_ev_cat]; exact hv) (k H locs ls hR hl hL h1 h2)
theorem av_s_pop {v : av_V} {r : List av_V} (C : av_Cx p R s m meth c a0 s0 D TY own nL cc ini h0 hf) (hd : decode cc pc = .ok (.pop, 1)) (hv : av_cat v = 1) (k : av_W p l e R s m args below meth c Q s0 D TY kr sc nL h0 (pc + 1) lv r h) : av_W p l e R s m args below meth c Q s0 D TY kr sc nL h0 pc lv (v :: r) h :=
  fun H locs ls hR hl hL h1 h2 => lv_pop C.1 C.2.1 hd (by rw [av_ev_cat]; exact hv) (k H locs ls hR hl hL h1 h2)
theorem av_s_dup2 {v u : av_V} {r : List av_V} (C : av_Cx p R s m meth c a0 s0 D TY own nL cc ini h0 hf) (hd : decode cc pc = .ok (.dup2, 1)) (hv : av_cat v = 1) (hu : av_cat u = 1) (k : av_W p l e R s m args below meth c Q s0 D TY kr sc nL h0 (pc + 1) lv (v :: u :: v :: u :: r) h) : av_W p l e R s m args below meth c Q s0 D TY kr sc nL h0 pc lv (v :: u :: r) h :=
  fun H locs ls hR hl hL h1 h2 => lv_dup2_11 C.1 C.2.1 hd (by rw [av_ev_cat]; exact hv) (by rw [av_ev_cat]; exact hu) (k H locs ls hR hl hL h1 h2)
theorem av_s_goto {off : Int} {t : Nat} (C : av_Cx p R s m meth c a0 s0 D TY own nL cc ini h0 hf) (hd : decode cc pc = .ok (.goto off, 3)) (ht : (pc : Int) + off = (t : Int)) (k : av_W p l e R s m args below meth c Q s0 D TY kr sc nL h0 t lv st h) : av_W p l e R s m args below meth c Q s0 D TY kr sc nL h0 pc lv st h :=
  fun H locs ls hR hl hL h1 h2 => lv_goto C.1 C.2.1 hd ht (k H locs ls hR hl hL h1 h2)
theorem av_s_icmp {cd : Jvm.ClassFile.Cond} {off : Int} {t : Nat} {x y : Int} {r : List av_V} (C : av_Cx p R s m meth c a0 s0 D TY own nL cc ini h0 hf) (hd : decode cc pc = .ok (.if_icmp cd off, 3)) (ht : (pc : Int) + off = (t : Int)) (k : av_W p l e R s m args below meth c Q s0 D TY kr sc nL h0 (if av_cmp cd (av_w x) (av_w y) = true then t else pc + 3) lv r h) : av_W p l e R s m args below meth c Q s0 D TY kr sc nL h0 pc lv (.inl y :: .inl x :: r) h := by
  intro H locs ls hR hl hL h1 h2
  cases cd with
  | eq =>
    refine lv_icmp_eq C.1 C.2.1 hd ht (fun q => ?_) (fun q => ?_)
    · have hc : av_cmp .eq (av_w x) (av_w y) = true := by simpa [av_cmp, av_eq, av_lt, av_le] using q
      rw [if_pos hc] at k
      exact k H locs ls hR hl hL h1 h2
    · have hc : ¬ av_cmp .eq (av_w x) (av_w y) = true := by simpa [av_cmp, av_eq, av_lt, av_le] using q
      rw [if_neg hc] at k
      exact k H locs ls hR hl hL h1 h2
  | ne =>
    refine lv_icmp_ne C.1 C.2.1 hd ht (fun q => ?_) (fun q => ?_)
    · have hc : av_cmp .ne (av_w x) (av_w y) = true := by simpa [av_cmp, av_eq, av_lt, av_le] using q
      rw [if_pos hc] at k
      exact k H locs ls hR hl hL h1 h2
    · have hc : ¬ av_cmp .ne (av_w x) (av_w y) = true := by simpa [av_cmp, av_eq, av_lt, av_le] using q
      rw [if_neg hc] at k
      exact k H locs ls hR hl hL h1 h2
  | lt =>
    refine lv_icmp_lt C.1 C.2.1 hd ht (fun q => ?_) (fun q => ?_)
    · have hc : av_cmp .lt (av_w x) (av_w y) = true := by simpa [av_cmp, av_eq, av_lt, av_le] using q
      rw [if_pos hc] at k
      exact k H locs ls hR hl hL h1 h2
    · have hc : ¬ av_cmp .lt (av_w x) (av_w y) = true := by simpa [av_cmp, av_eq, av_lt, av_le] using q
      rw [if_neg hc] at k
      exact k H locs ls hR hl hL h1 h2
  | ge =>
    refine lv_icmp_ge C.1 C.2.1 hd ht (fun q => ?_) (fun q => ?_)
    · have hc : av_cmp .ge (av_w x) (av_w y) = true := by simpa [av_cmp, av_eq, av_lt, av_le] using q
      rw [if_pos hc] at k
      exact k H locs ls hR hl hL h1 h2
    · have hc : ¬ av_cmp .ge (av_w x) (av_w y) = true := by simpa [av_cmp, av_eq, av_lt, av_le] using q
      rw [if_neg hc] at k
      exact k H locs ls hR hl hL h1 h2
  | gt =>
    refine lv_icmp_gt C.1 C.2.1 hd ht (fun q => ?_) (fun q => ?_)
    · have hc : av_cmp .gt (av_w x) (av_w y) = true := by simpa [av_cmp, av_eq, av_lt, av_le] using q
      rw [if_pos hc] at k
      exact k H locs ls hR hl hL h1 h2
    · have hc : ¬ av_cmp .gt (av_w x) (av_w y) = true := by simpa [av_cmp, av_eq, av_lt, av_le] using q
      rw [if_neg hc] at k
      exact k H locs ls hR hl hL h1 h2
  | le =>
    refine lv_icmp_le C.1 C.2.1 hd ht (fun q => ?_) (fun q => ?_)
    · have hc : av_cmp .le (av_w x) (av_w y) = true := by simpa [av_cmp, av_eq, av_lt, av_le] using q
      rw [if_pos hc] at k
      exact k H locs ls hR hl hL h1 h2
    · have hc : ¬ av_cmp .le (av_w x) (av_w y) = true := by simpa [av_cmp, av_eq, av_lt, av_le] using q
      rw [if_neg hc] at k
      exact k H locs ls hR hl hL h1 h2
theorem av_s_if {cd : Jvm.ClassFile.Cond} {off : Int} {t : Nat} {x : Int} {r : List av_V} (C : av_Cx p R s m meth c a0 s0 D TY own nL cc ini h0 hf) (hd : decode cc pc = .ok (.ifCond cd off, 3)) (ht : (pc : Int) + off = (t : Int)) (k : av_W p l e R s m args below meth c Q s0 D TY kr sc nL h0 (if av_cmp cd (av_w x) 0 = true then t else pc + 3) lv r h) : av_W p l e R s m args below meth c Q s0 D TY kr sc nL h0 pc lv (.inl x :: r) h := by
  intro H locs ls hR hl hL h1 h2
  have e0 : Int32.ofInt x = 0 ↔ av_w x = 0 := av_eq x 0
  have e1 : Int32.ofInt x < 0 ↔ av_w x < 0 := av_lt x 0
  have e2 : Int32.ofInt x ≤ 0 ↔ av_w x ≤ 0 := av_le x 0
  have e3 : (0 : Int32) < Int32.ofInt x ↔ 0 < av_w x := av_lt 0 x
  have e4 : (0 : Int32) ≤ Int32.ofInt x ↔ 0 ≤ av_w x := av_le 0 x
  cases cd with
  | eq =>
    refine lv_if_eq C.1 C.2.1 hd ht (fun q => ?_) (fun q => ?_)
    · have hc : av_cmp .eq (av_w x) 0 = true := by simpa [av_cmp, e0, e1, e2, e3, e4] using q
      rw [if_pos hc] at k
      exact k H locs ls hR hl hL h1 h2
    · have hc : ¬ av_cmp .eq (av_w x) 0 = true := by simpa [av_cmp, e0, e1, e2, e3, e4] using q
      rw [if_neg hc] at k
      exact k H locs ls hR hl hL h1 h2
  | ne =>
    refine lv_if_ne C.1 C.2.1 hd ht (fun q => ?_) (fun q => ?_)
    · have hc : av_cmp .ne (av_w x) 0 = true := by simpa [av_cmp, e0, e1, e2, e3, e4] using q
      rw [if_pos hc] at k
      exact k H locs ls hR hl hL h1 h2
    · have hc : ¬ av_cmp .ne (av_w x) 0 = true := by simpa [av_cmp, e0, e1, e2, e3, e4] using q
      rw [if_neg hc] at k
      exact k H locs ls hR hl hL h1 h2
  | lt =>
    refine lv_if_lt C.1 C.2.1 hd ht (fun q => ?_) (fun q => ?_)
    · have hc : av_cmp .lt (av_w x) 0 = true := by simpa [av_cmp, e0, e1, e2, e3, e4] using q
      rw [if_pos hc] at k
      exact k H locs ls hR hl hL h1 h2
    · have hc : ¬ av_cmp .lt (av_w x) 0 = true := by simpa [av_cmp, e0, e1, e2, e3, e4] using q
      rw [if_neg hc] at k
      exact k H locs ls hR hl hL h1 h2
  | ge =>
    refine lv_if_ge C.1 C.2.1 hd ht (fun q => ?_) (fun q => ?_)
    · have hc : av_cmp .ge (av_w x) 0 = true := by simpa [av_cmp, e0, e1, e2, e3, e4] using q
      rw [if_pos hc] at k
      exact k H locs ls hR hl hL h1 h2
    · have hc : ¬ av_cmp .ge (av_w x) 0 = true := by simpa [av_cmp, e0, e1, e2, e3, e4] using q
      rw [if_neg hc] at k
      exact k H locs ls hR hl hL h1 h2
  | gt =>
    refine lv_if_gt C.1 C.2.1 hd ht (fun q => ?_) (fun q => ?_)
    · have hc : av_cmp .gt (av_w x) 0 = true := by simpa [av_cmp, e0, e1, e2, e3, e4] using q
      rw [if_pos hc] at k
      exact k H locs ls hR hl hL h1 h2
    · have hc : ¬ av_cmp .gt (av_w x) 0 = true := by simpa [av_cmp, e0, e1, e2, e3, e4] using q
      rw [if_neg hc] at k
      exact k H locs ls hR hl hL h1 h2
  | le =>
    refine lv_if_le C.1 C.2.1 hd ht (fun q => ?_) (fun q => ?_)
    · have hc : av_cmp .le (av_w x) 0 = true := by simpa [av_cmp, e0, e1, e2, e3, e4] using q
      rw [if_pos hc] at k
      exact k H locs ls hR hl hL h1 h2
    · have hc : ¬ av_cmp .le (av_w x) 0 = true := by simpa [av_cmp, e0, e1, e2, e3, e4] using q
      rw [if_neg hc] at k
      exact k H locs ls hR hl hL h1 h2
theorem av_s_ifnull {off : Int} {t : Nat} {v : Option Nat} {r : List av_V} (C : av_Cx p R s m meth c a0 s0 D TY own nL cc ini h0 hf) (hd : decode cc pc = .ok (.ifnull off, 3)) (ht : (pc : Int) + off = (t : Int)) (k : av_W p l e R s m args below meth c Q s0 D TY kr sc nL h0 (match v with
      | none => t
      | some _ => pc + 3) lv r h) : av_W p l e R s m args below meth c Q s0 D TY kr sc nL h0 pc lv (.inr (.inr (.inl v)) :: r) h := by
  intro H locs ls hR hl hL h1 h2
  cases v with
  | none => exact lv_ifnullN C.1 C.2.1 hd ht (k H locs ls hR hl hL h1 h2)
  | some o => exact lv_ifnull C.1 C.2.1 hd (k H locs ls hR hl hL h1 h2)
theorem av_s_ifnonnull {off : Int} {t : Nat} {v : Option Nat} {r : List av_V} (C : av_Cx p R s m meth c a0 s0 D TY own nL cc ini h0 hf) (hd : decode cc pc = .ok (.ifnonnull off, 3)) (ht : (pc : Int) + off = (t : Int)) (k : av_W p l e R s m args below meth c Q s0 D TY kr sc nL h0 (match v with
      | none => pc + 3
      | some _ => t) lv r h) : av_W p l e R s m args below meth c Q s0 D TY kr sc nL h0 pc lv (.inr (.inr (.inl v)) :: r) h := by
  intro H locs ls hR hl hL h1 h2
  cases v with
  | none => exact lv_ifnonnullN C.1 C.2.1 hd (k H locs ls hR hl hL h1 h2)
  | some o => exact lv_ifnonnull C.1 C.2.1 hd ht (k H locs ls hR hl hL h1 h2)
theorem av_s_table {d lo hi : Int} {offs : Array Int} {len : Nat} {x : Int} {r : List av_V} (C : av_Cx p R s m meth c a0 s0 D TY own nL cc ini h0 hf) (hd : decode cc pc = .ok (.tableswitch d lo hi offs, len)) (h3 : 0 ≤ (pc : Int) + d) (h4 : ∀ q ∈ offs.toList, 0 ≤ (pc : Int) + q) (h5 : hi - lo < offs.toList.length) (k : av_W p l e R s m args below meth c Q s0 D TY kr sc nL h0 ((pc : Int) + (if av_w x < lo ∨ hi < av_w x then d else offs.toList.getD (av_w x - lo).toNat 0)).toNat lv r h) : av_W p l e R s m args below meth c Q s0 D TY kr sc nL h0 pc lv (.inl x :: r) h := by
  intro H locs ls hR hl hL h1 h2
  by_cases q : av_w x < lo ∨ hi < av_w x
  · rw [if_pos q] at k
    refine lv_tableOut C.1 C.2.1 hd (by rw [av_w_eq]; exact q) (tgt := ((pc : Int) + d).toNat) ?_ (k H locs ls hR hl hL h1 h2)
    omega
  · rw [if_neg q] at k
    have hi1 : (av_w x - lo).toNat < offs.toList.length := by omega
    have e1 : offs.toList.getD (av_w x - lo).toNat 0 = offs.toList[(av_w x - lo).toNat] := by
      rw [List.getD_eq_getElem?_getD, List.getElem?_eq_getElem hi1]; rfl
    have hm : offs.toList.getD (av_w x - lo).toNat 0 ∈ offs.toList := by rw [e1]; exact List.getElem_mem hi1
    refine lv_tableIn C.1 C.2.1 hd (by rw [av_w_eq]; omega) (by rw [av_w_eq]; omega) (off := offs.toList.getD (av_w x - lo).toNat 0) ?_ (tgt := ((pc : Int) + offs.toList.getD (av_w x - lo).toNat 0).toNat) ?_ (k H locs ls hR hl hL h1 h2)
    · rw [av_w_eq, ← Array.getElem?_toList, List.getElem?_eq_getElem hi1, e1]
    · have := h4 _ hm
      omega
theorem av_s_lookup {d : Int} {ps : Array (Int × Int)} {len : Nat} {x : Int} {r : List av_V} (C : av_Cx p R s m meth c a0 s0 D TY own nL cc ini h0 hf) (hd : decode cc pc = .ok (.lookupswitch d ps, len)) (h3 : (ps.toList.zip (ps.toList.drop 1)).all (fun (a, next) => a.1 < next.1) = true) (h4 : 0 ≤ (pc : Int) + Op.lookupswitch.offset ps.toList d (av_w x)) (k : av_W p l e R s m args below meth c Q s0 D TY kr sc nL h0 ((pc : Int) + Op.lookupswitch.offset ps.toList d (av_w x)).toNat lv r h) : av_W p l e R s m args below meth c Q s0 D TY kr sc nL h0 pc lv (.inl x :: r) h :=
  fun H locs ls hR hl hL h1 h2 => lv_lookup C.1 C.2.1 hd h3 (by rw [av_w_eq]) (tgt := ((pc : Int) + Op.lookupswitch.offset ps.toList d (av_w x)).toNat) (by omega) (k H locs ls hR hl hL h1 h2)
end AVA
end
section
/-! ONE STEP: fields and arrays -/
section AVH
variable {p : Program} {l : Launch} {e : Env} {R : Room} {s : State} {m : MethodId} {args : Array Value} {below : List Frame} {meth : Method} {c : Code} {Q : State → Prop}
variable {a0 : Array Value} {s0 : State} {D : va_G} {TY : Nat → ClassId} {kr : Nat → Nat} {sc : av_Sr} {own nL : Nat} {cc : ByteArray} {ini : Bool} {h0 hf h h' : av_H} {pc pc' : Nat} {lv lv' : av_L} {st st' : List av_V}

theorem av_at_eq {z : Nat} {k : Nat} {H H' : Heap} (hk : av_at z D TY h k H) (hH : H'[z + k]? = H[z + k]?) (hlay : h'.2.2.1 k = h.2.2.1 k) (hA : h'.2.2.2.1 k = h.2.2.2.1 k) (hI : h'.2.2.2.2.1 k = h.2.2.2.2.1 k) (hG : h'.2.2.2.2.2.1 k = h.2.2.2.2.2.1 k) (hRr : h'.2.2.2.2.2.2.1 k = h.2.2.2.2.2.2.1 k) : av_at z D TY h' k H' := by
  unfold av_at at hk ⊢
  rw [hlay]
  by_cases c1 : (h.2.2.1 k).1 < 9
  · rw [if_pos c1] at hk ⊢
    refine (hk.kept hH).to (fun j _ => ?_)
    unfold av_fv
    rw [hI, hG]
  · rw [if_neg c1] at hk ⊢
    by_cases c2 : (h.2.2.1 k).1 < 30
    · rw [if_pos c2] at hk ⊢
      rw [hH, hA]
      exact hk
    · rw [if_neg c2] at hk ⊢
      rw [hH, hRr]
      exact hk
/-- one cell of the small heap has changed -/
theorem av_R_upd {H H' : Heap} {o : Nat} (hR : av_R s0 D TY sc h H) (hz : H'.size = H.size) (hoth : ∀ q : Nat, q ≠ s0.heap.size + o → H'[q]? = H[q]?) (hn : h'.1 = h.1) (hlay : h'.2.2.1 = h.2.2.1) (hsc : h'.2.2.2.2.2.2.2 = h.2.2.2.2.2.2.2)
    (hsame : ∀ k, k ≠ o → h'.2.2.2.1 k = h.2.2.2.1 k ∧ h'.2.2.2.2.1 k = h.2.2.2.2.1 k ∧ h'.2.2.2.2.2.1 k = h.2.2.2.2.2.1 k ∧ h'.2.2.2.2.2.2.1 k = h.2.2.2.2.2.2.1 k) (hc : av_at s0.heap.size D TY h' o H') : av_R s0 D TY sc h' H' := by
  obtain ⟨r1, r2, r3, r4⟩ := hR
  refine ⟨by rw [hz, r1, hn], fun q hq => (hoth q (by omega)).trans (r2 q hq), trivial, fun k hk => ?_⟩
  by_cases e : k = o
  · subst e
    exact hc
  · obtain ⟨q1, q2, q3, q4⟩ := hsame k e
    exact av_at_eq (r4 k (by rw [← hn]; exact hk)) (hoth _ (by omega)) (by rw [hlay]) q1 q2 q3 q4
/-- a cell has come behind -/
theorem av_R_new {H H' : Heap} (hR : av_R s0 D TY sc h H) (hz : H'.size = H.size + 1) (hoth : ∀ q : Nat, q < H.size → H'[q]? = H[q]?) (hn : h'.1 = h.1 + 1) (hsc : h'.2.2.2.2.2.2.2 = h.2.2.2.2.2.2.2)
    (hsame : ∀ k, k ≠ h.1 → h'.2.2.1 k = h.2.2.1 k ∧ h'.2.2.2.1 k = h.2.2.2.1 k ∧ h'.2.2.2.2.1 k = h.2.2.2.2.1 k ∧ h'.2.2.2.2.2.1 k = h.2.2.2.2.2.1 k ∧ h'.2.2.2.2.2.2.1 k = h.2.2.2.2.2.2.1 k) (hc : av_at s0.heap.size D TY h' h.1 H') : av_R s0 D TY sc h' H' := by
  obtain ⟨r1, r2, r3, r4⟩ := hR
  refine ⟨by rw [hz, r1, hn]; omega, fun q hq => (hoth q (by omega)).trans (r2 q hq), trivial, fun k hk => ?_⟩
  by_cases e : k = h.1
  · subst e
    exact hc
  · obtain ⟨q0, q1, q2, q3, q4⟩ := hsame k e
    exact av_at_eq (r4 k (by omega)) (hoth _ (by omega)) q0 q1 q2 q3 q4
theorem av_wd {w : Cond} (C : av_Cx p R s m meth c a0 s0 D TY own nL cc ini h0 hf) (hw : w ∈ lw_tbl) (hg : (w.onTables && w.keeps) = true) : w.before args s = true := word_at C.2.2.2.2.1 (Or.inl hg) (C.2.2.2.2.2.1.1 w hw)
theorem av_wdA {ty : FieldType} (C : av_Cx p R s m meth c a0 s0 D TY own nL cc ini h0 hf) (hw : Cond.arrayClass ty ∈ lw_tbl) : (Cond.arrayClass ty).before args s = true := word_at C.2.2.2.2.1 (Or.inr ⟨ty, rfl⟩) (C.2.2.2.2.2.1.1 _ hw)
theorem av_wdF {b n d host : String} {a : String} {i : Nat} (C : av_Cx p R s m meth c a0 s0 D TY own nL cc ini h0 hf) (hw : Cond.fieldLinkNest a i b n d host ∈ lw_tbl) : (Cond.fieldLinkNest a i b n d host).before args s = true := va_Nw.use rfl (va_Nw.warmF C.2.2.2.2.1 (va_Nw.of rfl (C.2.2.2.2.2.1.1 _ hw)))
theorem av_wdM {a host : String} {i : Nat} {x : MethodName} (C : av_Cx p R s m meth c a0 s0 D TY own nL cc ini h0 hf) (hw : Cond.methodLinkNest a i x host ∈ lw_tbl) : va_Nw (.methodLinkNest a i x host) s := va_Nw.warmM C.2.2.2.2.1 (va_Nw.of rfl (C.2.2.2.2.2.1.1 _ hw))
theorem av_kn {ci : Nat} (C : av_Cx p R s m meth c a0 s0 D TY own nL cc ini h0 hf) (hci : ci < 9) : u_Kn s (av_cn ci) (av_T ci) (av_N ci) (D.1 ci) (D.2 ci) := u_Kn_moved C.2.2.2.2.1.alike (C.2.2.2.2.2.1.2.1 ci hci)
theorem av_ka {k : Nat} (C : av_Cx p R s m meth c a0 s0 D TY own nL cc ini h0 hf) (hk : k ∈ [20, 21, 22, 30, 31, 32]) : ArrOfT s (TY k) (av_ft k) ∧ va_RA s (TY k) (av_ft k) := ⟨arrOfT_moved C.2.2.2.2.1.alike (C.2.2.2.2.2.1.2.2 k hk).1, (C.2.2.2.2.2.1.2.2 k hk).2.moved C.2.2.2.2.1.alike⟩
theorem av_hts {ci : Nat} (C : av_Cx p R s m meth c a0 s0 D TY own nL cc ini h0 hf) (hci : ci < 9) : ∀ w ∈ u_ws (av_cn ci) (av_T ci) (av_N ci), w.before args s = true := by
  intro w hw
  refine av_wd C (av_lay ci hci w hw) ?_
  obtain ⟨k, -, rfl⟩ := List.mem_map.mp hw
  unfold u_lay
  split <;> rfl
/-- how a field is named at a place: by the tables' word, or by the nest's -/
def av_FL (own idx ci k : Nat) : Prop := Cond.fieldLink (av_cn own) idx (av_T ci k).1 (av_T ci k).2.1 (av_T ci k).2.2.1 ∈ lw_tbl ∨ ∃ host, Cond.fieldLinkNest (av_cn own) idx (av_T ci k).1 (av_T ci k).2.1 (av_T ci k).2.2.1 host ∈ lw_tbl
theorem av_s_getf {x : av_E} {idx : Nat} (C : av_Cx p R s m meth c a0 s0 D TY own nL cc ini h0 hf) (hd : decode cc pc = .ok (.getfield idx, 3)) (hci : x.2.2.1 < 9) (hk : x.2.2.2.1 < av_N x.2.2.1) (ht : x.2.2.2.2.1 = av_tg (av_ty x.2.2.1 x.2.2.2.1)) (hlk : av_FL own idx x.2.2.1 x.2.2.2.1)
    (hs : av_getf x pc lv st h = some (pc', lv', st', h')) (k : av_W p l e R s m args below meth c Q s0 D TY kr sc nL h0 pc' lv' st' h') : av_W p l e R s m args below meth c Q s0 D TY kr sc nL h0 pc lv st h := by
  intro H locs ls hR hl hL h1 h2
  unfold av_getf at hs
  split at hs
  · next o r =>
    split at hs
    · next hc =>
      cases hs
      have kk := k H locs ls hR hl hL h1 h2
      have hat := hR.2.2.2 o hc.1
      unfold av_at at hat
      rw [if_pos (by rw [hc.2]; exact hci), hc.2] at hat
      obtain ⟨cell, q1, q2, q3, q4⟩ := hat
      have hK := av_kn C hci
      obtain ⟨hS, hfc, kC, hkC, hkind⟩ := hK
      obtain ⟨cf, kf, fi, f, hi, hsl⟩ := hS _ hk
      have hst := (u_facts hfc hkC (u_lays (args := args) (av_hts C hci) (fun w hw => hw) hk) hi).1
      have hv : cell.slots[f.slot]? = some (av_ev s0.heap.size kr (match x.2.2.2.2.1 with
        | 1 => .inr (.inl (h.2.2.2.2.1 o x.2.2.2.1))
        | 2 => .inr (.inr (.inl (h.2.2.2.2.2.1 o x.2.2.2.1)))
        | _ => .inl (h.2.2.2.2.1 o x.2.2.2.1))) := by
        rw [hsl, q4 _ hk]
        unfold av_fv
        dsimp only
        rw [← ht]
        generalize x.2.2.2.2.1 = tg
        rcases tg with _ | _ | _ | tg <;> rfl
      rcases hlk with hlk | ⟨host, hlk⟩
      · exact W.getf C.1 C.2.1 C.2.2.2.1 (av_wd C hlk rfl) hi hst q1 (by rw [q3]; exact fun q => by cases q) hv rfl rfl hd kk
      · exact va_Wgetf C.1 C.2.1 C.2.2.2.1 (av_wdF C hlk) hi hst q1 (by rw [q3]; exact fun q => by cases q) hv rfl rfl hd kk
    · cases hs
  · cases hs
theorem av_apart {ci : Nat} (C : av_Cx p R s m meth c a0 s0 D TY own nL cc ini h0 hf) (hci : ci < 9) : ∀ x y, x < av_N ci → y < av_N ci → x ≠ y → (D.2 ci) x ≠ (D.2 ci) y := by
  intro x y hx hy hne
  obtain ⟨hS, -⟩ := av_kn C hci
  obtain ⟨_, _, _, fa, hia, ea⟩ := hS x hx
  obtain ⟨_, _, _, fb, hib, eb⟩ := hS y hy
  rw [← ea, ← eb]
  refine u_apart (args := #[]) (u_lays (args := #[]) (av_hts C hci) (fun w hw => hw) hx) (u_lays (args := #[]) (av_hts C hci) (fun w hw => hw) hy) hia hib ?_
  rw [(State.fieldFound?_type hia (av_tyok ci hci x hx)).1, (State.fieldFound?_type hib (av_tyok ci hci y hy)).1]
  exact av_nm ci hci x hx y hy hne
/-- a store into a field: the cell, as the kit's rows give it -/
theorem av_put {idx ci k o : Nat} {v : Value} {rest : List Value} {H : Heap} {locs : List Loc} {cells slots : Nat} {ls : Array Slot} (C : av_Cx p R s m meth c a0 s0 D TY own nL cc ini h0 hf) (hd : decode cc pc = .ok (.putfield idx, 3)) (hci : ci < 9) (hk : k < av_N ci) (hlk : av_FL own idx ci k) (hfi : (av_T ci k).2.2.2 = false ∨ (own = ci ∧ (av_T ci k).1 = av_cn ci ∧ ini = true ∧ Cond.fieldLink (av_cn own) idx (av_T ci k).1 (av_T ci k).2.1 (av_T ci k).2.2.1 ∈ lw_tbl))
    (hn : narrow (av_ty ci k) v = v) (hfit : fits (av_ty ci k) v = true) (ho : o < h.1 ∧ (h.2.2.1 o).1 = ci) (hR : av_R s0 D TY sc h H)
    (kk : ∀ (H1 : Heap) (lc : Loc), H1.size = H.size → (∀ q : Nat, q ≠ s0.heap.size + o → H1[q]? = H[q]?) → t_OB (s0.heap.size + o) (D.1 ci) (av_N ci) (D.2 ci) H1 (updV (fun j => av_fv s0.heap.size h (av_ty ci j) o j) k v) → lc.base = s0.heap.size + o → W p l e R s m args below meth c H1 (locs ++ [lc]) cells slots Q (F0 m (pc + 3) ls rest)) : W p l e R s m args below meth c H locs cells slots Q (F0 m pc ls (v :: .ref (s0.heap.size + o) :: rest)) := by
  have hap := av_apart C hci
  have hat := hR.2.2.2 o ho.1
  unfold av_at at hat
  rw [if_pos (by rw [ho.2]; exact hci), ho.2] at hat
  obtain ⟨cell, q1, q2, q3, q4⟩ := hat
  have hK := av_kn C hci
  obtain ⟨hS, hfc, kC, hkC, hkind⟩ := hK
  obtain ⟨cf, kf, fi, f, hi, hsl⟩ := hS _ hk
  have hts := av_hts (args := args) C hci
  have hst := (u_facts hfc hkC (u_lays hts (fun w hw => hw) hk) hi).1
  have hlay := hts _ (u_in_lay hk)
  have hty := av_tyok ci hci k hk
  have fin : ∀ (H' : Heap), H'[s0.heap.size + o]? = some (cell.setSlot f.slot v) → t_OB (s0.heap.size + o) (D.1 ci) (av_N ci) (D.2 ci) H' (updV (fun j => av_fv s0.heap.size h (av_ty ci j) o j) k v) := by
    intro H' e1
    rw [hsl] at e1
    exact ⟨_, e1, q2, q3, t_set q4 hap hk v⟩
  rcases hfi with hfi | ⟨hoc, hdl, hin, hlf⟩
  · unfold u_lay at hlay
    rw [if_neg (by rw [hfi]; decide)] at hlay
    have h6 := u_store hfc hkC hkind hlay hi hty hn hfit
    rcases hlk with hlk | ⟨host, hlk⟩
    · exact W.putK C.1 C.2.1 (f := f) ⟨C.2.2.2.1, av_wd C hlk rfl, ⟨_, _, _, hi⟩, hst⟩ (by rw [q2]; exact h6) q1 q3 (by rw [hsl]; exact k2_hasslot (q4 k hk)) rfl rfl hd fun H' e1 e2 e3 => kk H' _ e2 e3 (fin H' e1) rfl
    · exact va_WputK C.1 C.2.1 (f := f) C.2.2.2.1 (av_wdF C hlk) hi hst (by rw [q2]; exact h6) q1 q3 (by rw [hsl]; exact k2_hasslot (q4 k hk)) rfl rfl hd fun H' e1 e2 e3 => kk H' _ e2 e3 (fin H' e1) rfl
  · by_cases hfi : (av_T ci k).2.2.2 = true
    · unfold u_lay at hlay
      rw [if_pos hfi] at hlay
      have hcf : m.cls = cf := by
        obtain ⟨_, _, c', _, _, _, -, -, hf', -, -, -, hown2, -⟩ := Cond.laysFinal_spec hlay
        have e1 : c' = cf := by have := hi.symm.trans hf'; simp at this; exact this.1.symm
        rw [hdl, ← hoc] at hown2
        rw [← e1]
        exact Option.some.inj (C.2.2.2.1.symm.trans hown2)
      have h6 := u_fits hfc hkC hkind (Or.inr hlay) hi hty hn hfit
      exact W.putFinK C.1 C.2.1 C.2.2.2.1 (av_wd C hlf rfl) hi hst hcf (C.2.2.2.2.2.2.1 hin) (by rw [q2]; exact h6) q1 q3 (by rw [hsl]; exact k2_hasslot (q4 k hk)) rfl rfl hd fun H' e1 e2 e3 => kk H' _ e2 e3 (fin H' e1) rfl
    · unfold u_lay at hlay
      rw [if_neg hfi] at hlay
      have h6 := u_store hfc hkC hkind hlay hi hty hn hfit
      exact W.putK C.1 C.2.1 (f := f) ⟨C.2.2.2.1, av_wd C hlf rfl, ⟨_, _, _, hi⟩, hst⟩ (by rw [q2]; exact h6) q1 q3 (by rw [hsl]; exact k2_hasslot (q4 k hk)) rfl rfl hd fun H' e1 e2 e3 => kk H' _ e2 e3 (fin H' e1) rfl
end AVH
end
section
/-! ONE STEP: stores -/
section AVP
variable {p : Program} {l : Launch} {e : Env} {R : Room} {s : State} {m : MethodId} {args : Array Value} {below : List Frame} {meth : Method} {c : Code} {Q : State → Prop}
variable {a0 : Array Value} {s0 : State} {D : va_G} {TY : Nat → ClassId} {kr : Nat → Nat} {sc : av_Sr} {own nL : Nat} {cc : ByteArray} {ini : Bool} {h0 hf h h' : av_H} {pc pc' : Nat} {lv lv' : av_L} {st st' : List av_V}

theorem av_u2_ne {α : Type} {f : Nat → Nat → α} {i j a : Nat} {v : α} (h : a ≠ i) : av_u2 f i j v a = f a := by
  funext b
  simp [av_u2, h]
theorem av_u2_self {α : Type} {f : Nat → Nat → α} {i j : Nat} {v : α} : av_u2 f i j v i j = v := by simp [av_u2]
theorem av_u2_oth {α : Type} {f : Nat → Nat → α} {i j b : Nat} {v : α} (h : b ≠ j) : av_u2 f i j v i b = f i b := by simp [av_u2, h]
theorem av_u1_ne {α : Type} {f : Nat → α} {i a : Nat} {v : α} (h : a ≠ i) : av_u1 f i v a = f a := by simp [av_u1, h]
theorem av_u1_self {α : Type} {f : Nat → α} {i : Nat} {v : α} : av_u1 f i v i = v := by simp [av_u1]
theorem av_locs {locs : List Loc} {lc : Loc} {z o : Nat} (hl : ∀ q ∈ locs, z ≤ q.base) (hb : lc.base = z + o) : ∀ q ∈ locs ++ [lc], z ≤ q.base := by
  intro q hq
  rcases List.mem_append.mp hq with hq | hq
  · exact hl q hq
  · rw [List.mem_singleton.mp hq, hb]
    omega
theorem av_tg1 {ty : FieldType} (h : av_tg ty = 1) : ty = .long := by cases ty <;> first | rfl | cases h
theorem av_tg3 {ty : FieldType} (h : av_tg ty = 3) : ty = .boolean := by cases ty <;> first | rfl | cases h
theorem av_tg2 {ty : FieldType} (h : av_tg ty = 2) (v : Option Nat) : narrow ty (va_rf v) = va_rf v ∧ fits ty (va_rf v) = true := by
  cases ty <;> first | (cases v <;> exact ⟨rfl, rfl⟩) | cases h
theorem av_bool {x : Int} (h : x = 0 ∨ x = 1) : narrow .boolean (.int (Int32.ofInt x)) = .int (Int32.ofInt x) ∧ fits .boolean (.int (Int32.ofInt x)) = true := by
  rcases h with rfl | rfl
  · exact ⟨by decide, by decide⟩
  · exact ⟨by decide, by decide⟩
/-- the object's cell behind a store into its number field k -/
theorem av_at_putI {H1 : Heap} {z o ci k : Nat} {x : Int} (hci : ci < 9) (ho : (h.2.2.1 o).1 = ci) (hv : av_tg (av_ty ci k) ≠ 2) (hob : t_OB (z + o) (D.1 ci) (av_N ci) (D.2 ci) H1 (updV (fun j => av_fv z h (av_ty ci j) o j) k (match av_tg (av_ty ci k) with
    | 1 => .long (Int64.ofInt x)
    | _ => .int (Int32.ofInt x)))) : av_at z D TY (h.1, h.2.1, h.2.2.1, h.2.2.2.1, av_u2 h.2.2.2.2.1 o k x, h.2.2.2.2.2) o H1 := by
  unfold av_at
  dsimp only
  rw [if_pos (by rw [ho]; exact hci), ho]
  refine hob.to (fun j _ => ?_)
  by_cases e : j = k
  · subst e
    simp only [updV, if_pos]
    unfold av_fv
    simp only [av_u2_self]
    generalize av_tg (av_ty ci j) = tg at hv
    rcases tg with _ | _ | _ | tg
    · rfl
    · rfl
    · exact absurd rfl hv
    · rfl
  · simp only [updV, if_neg e]
    unfold av_fv
    simp only [av_u2_oth e]
theorem av_at_putG {H1 : Heap} {z o ci k : Nat} {v : Option Nat} (hci : ci < 9) (ho : (h.2.2.1 o).1 = ci) (hv : av_tg (av_ty ci k) = 2) (hob : t_OB (z + o) (D.1 ci) (av_N ci) (D.2 ci) H1 (updV (fun j => av_fv z h (av_ty ci j) o j) k (va_rf (v.map (fun q => z + q))))) : av_at z D TY (h.1, h.2.1, h.2.2.1, h.2.2.2.1, h.2.2.2.2.1, av_u2 h.2.2.2.2.2.1 o k v, h.2.2.2.2.2.2) o H1 := by
  unfold av_at
  dsimp only
  rw [if_pos (by rw [ho]; exact hci), ho]
  refine hob.to (fun j _ => ?_)
  by_cases e : j = k
  · subst e
    simp only [updV, if_pos]
    unfold av_fv
    simp only [av_u2_self, hv]
  · simp only [updV, if_neg e]
    unfold av_fv
    simp only [av_u2_oth e]
theorem av_s_putf {x : av_E} {idx : Nat} (C : av_Cx p R s m meth c a0 s0 D TY own nL cc ini h0 hf) (hd : decode cc pc = .ok (.putfield idx, 3)) (hci : x.2.2.1 < 9) (hk : x.2.2.2.1 < av_N x.2.2.1) (ht : x.2.2.2.2.1 = av_tg (av_ty x.2.2.1 x.2.2.2.1)) (ht0 : x.2.2.2.2.1 = 0 → av_ty x.2.2.1 x.2.2.2.1 = .int) (hlk : av_FL own idx x.2.2.1 x.2.2.2.1)
    (hfi : (av_T x.2.2.1 x.2.2.2.1).2.2.2 = false ∨ (own = x.2.2.1 ∧ (av_T x.2.2.1 x.2.2.2.1).1 = av_cn x.2.2.1 ∧ ini = true ∧ Cond.fieldLink (av_cn own) idx (av_T x.2.2.1 x.2.2.2.1).1 (av_T x.2.2.1 x.2.2.2.1).2.1 (av_T x.2.2.1 x.2.2.2.1).2.2.1 ∈ lw_tbl))
    (hs : av_putf x pc lv st h = some (pc', lv', st', h')) (k : av_W p l e R s m args below meth c Q s0 D TY kr sc nL h0 pc' lv' st' h') : av_W p l e R s m args below meth c Q s0 D TY kr sc nL h0 pc lv st h := by
  intro H locs ls hR hl hL h1 h2
  unfold av_putf at hs
  split at hs
  · next tg st9 v o r et =>
    split at hs
    · next hc =>
      cases hs
      have ety := ht0 et
      refine av_put C hd hci hk hlk hfi (by rw [ety]; rfl) (by rw [ety]; rfl) hc hR (fun H1 lc e1 e2 e3 e4 => ?_)
      refine k H1 (locs ++ [lc]) ls (av_R_upd hR e1 e2 rfl rfl rfl (fun k hk => ⟨rfl, av_u2_ne hk, rfl, rfl⟩) (av_at_putI hci hc.2 (by rw [← ht, et]; decide) ?_)) (av_locs hl e4) hL h1 h2
      rw [← ht, et]
      exact e3
    · cases hs
  · next tg st9 v o r et =>
    split at hs
    · next hc =>
      cases hs
      have ety := av_tg1 (ht.symm.trans et)
      refine av_put C hd hci hk hlk hfi (by rw [ety]; rfl) (by rw [ety]; rfl) hc hR (fun H1 lc e1 e2 e3 e4 => ?_)
      refine k H1 (locs ++ [lc]) ls (av_R_upd hR e1 e2 rfl rfl rfl (fun k hk => ⟨rfl, av_u2_ne hk, rfl, rfl⟩) (av_at_putI hci hc.2 (by rw [← ht, et]; decide) ?_)) (av_locs hl e4) hL h1 h2
      rw [← ht, et]
      exact e3
    · cases hs
  · next tg st9 v o r et =>
    split at hs
    · next hc =>
      cases hs
      have ety := av_tg2 (ht.symm.trans et)
      refine av_put C hd hci hk hlk hfi (ety _).1 (ety _).2 hc hR (fun H1 lc e1 e2 e3 e4 => ?_)
      exact k H1 (locs ++ [lc]) ls (av_R_upd hR e1 e2 rfl rfl rfl (fun k hk => ⟨rfl, rfl, av_u2_ne hk, rfl⟩) (av_at_putG hci hc.2 (ht.symm.trans et) e3)) (av_locs hl e4) hL h1 h2
    · cases hs
  · next tg st9 v o r et =>
    split at hs
    · next hc =>
      cases hs
      have ety := av_tg3 (ht.symm.trans et)
      refine av_put C hd hci hk hlk hfi (by rw [ety]; exact (av_bool hc.2).1) (by rw [ety]; exact (av_bool hc.2).2) hc.1 hR (fun H1 lc e1 e2 e3 e4 => ?_)
      refine k H1 (locs ++ [lc]) ls (av_R_upd hR e1 e2 rfl rfl rfl (fun k hk => ⟨rfl, av_u2_ne hk, rfl, rfl⟩) (av_at_putI hci hc.1.2 (by rw [← ht, et]; decide) ?_)) (av_locs hl e4) hL h1 h2
      rw [← ht, et]
      exact e3
    · cases hs
  · cases hs
/-- an array's cell -/
theorem av_arrN {H : Heap} {o k : Nat} (hR : av_R s0 D TY sc h H) (ho : o < h.1) (hk : (h.2.2.1 o).1 = k) (h9 : 9 ≤ k) (h30 : k < 30) : H[s0.heap.size + o]? = some (arrV (TY k) (h.2.2.1 o).2 (fun j => .int (Int32.ofInt (h.2.2.2.1 o j)))) := by
  have hat := hR.2.2.2 o ho
  unfold av_at at hat
  rw [if_neg (by omega), if_pos (by omega), hk] at hat
  exact hat
theorem av_arrR {H : Heap} {o k : Nat} (hR : av_R s0 D TY sc h H) (ho : o < h.1) (hk : (h.2.2.1 o).1 = k) (h30 : 30 ≤ k) : H[s0.heap.size + o]? = some (arrV (TY k) (h.2.2.1 o).2 (fun j => va_rf ((h.2.2.2.2.2.2.1 o j).map (fun q => s0.heap.size + q)))) := by
  have hat := hR.2.2.2 o ho
  unfold av_at at hat
  rw [if_neg (by omega), if_neg (by omega), hk] at hat
  exact hat
theorem av_at_setA {H1 : Heap} {z o i : Nat} {x : Int} {k : Nat} (hk : (h.2.2.1 o).1 = k) (h9 : 9 ≤ k) (h30 : k < 30) (hc : H1[z + o]? = some ((arrV (TY k) (h.2.2.1 o).2 (fun j => .int (Int32.ofInt (h.2.2.2.1 o j)))).setSlot i (.int (Int32.ofInt x)))) : av_at z D TY (h.1, h.2.1, h.2.2.1, av_u2 h.2.2.2.1 o i x, h.2.2.2.2) o H1 := by
  unfold av_at
  dsimp only
  rw [if_neg (by omega), if_pos (by omega), hc, arrV_store, hk]
  congr 2
  funext j
  by_cases e : j = i
  · subst e
    simp [updV, av_u2_self]
  · simp [updV, e, av_u2_oth e]
theorem av_at_setR {H1 : Heap} {z o i : Nat} {v : Option Nat} {k : Nat} (hk : (h.2.2.1 o).1 = k) (h30 : 30 ≤ k) (hc : H1[z + o]? = some ((arrV (TY k) (h.2.2.1 o).2 (fun j => va_rf ((h.2.2.2.2.2.2.1 o j).map (fun q => z + q)))).setSlot i (va_rf (v.map (fun q => z + q))))) : av_at z D TY (h.1, h.2.1, h.2.2.1, h.2.2.2.1, h.2.2.2.2.1, h.2.2.2.2.2.1, av_u2 h.2.2.2.2.2.2.1 o i v, h.2.2.2.2.2.2.2) o H1 := by
  unfold av_at
  dsimp only
  rw [if_neg (by omega), if_neg (by omega), hc, arrV_store, hk]
  congr 2
  funext j
  by_cases e : j = i
  · subst e
    simp [updV, av_u2_self]
  · simp [updV, e, av_u2_oth e]
theorem av_s_iast (C : av_Cx p R s m meth c a0 s0 D TY own nL cc ini h0 hf) (hd : decode cc pc = .ok (.iastore, 1)) (hs : av_iast pc lv st h = some (pc', lv', st', h')) (k : av_W p l e R s m args below meth c Q s0 D TY kr sc nL h0 pc' lv' st' h') : av_W p l e R s m args below meth c Q s0 D TY kr sc nL h0 pc lv st h := by
  intro H locs ls hR hl hL h1 h2
  unfold av_iast at hs
  split at hs
  · next x i o r =>
    split at hs
    · next hc =>
      cases hs
      obtain ⟨hin, hlt⟩ := av_inP hc.2
      have hcell := av_arrN hR hc.1.1 hc.1.2 (by omega) (by omega)
      refine W.iast C.1 C.2.1 hcell ((av_ka C (k := 20) (by decide)).1 _ _) (fun q => by cases q) (by rw [arrV_size]; exact hin) rfl rfl hd (fun H' e1 e2 e3 => ?_)
      rw [av_nat] at e1 ⊢
      exact k H' _ ls (av_R_upd hR e2 e3 rfl rfl rfl (fun k hk => ⟨av_u2_ne hk, rfl, rfl, rfl⟩) (av_at_setA hc.1.2 (by omega) (by omega) e1)) (av_locs hl rfl) hL h1 h2
    · cases hs
  · cases hs
theorem av_s_bast (C : av_Cx p R s m meth c a0 s0 D TY own nL cc ini h0 hf) (hd : decode cc pc = .ok (.bastore, 1)) (hs : av_bast pc lv st h = some (pc', lv', st', h')) (k : av_W p l e R s m args below meth c Q s0 D TY kr sc nL h0 pc' lv' st' h') : av_W p l e R s m args below meth c Q s0 D TY kr sc nL h0 pc lv st h := by
  intro H locs ls hR hl hL h1 h2
  unfold av_bast at hs
  split at hs
  · next x i o r =>
    split at hs
    · next hc =>
      cases hs
      obtain ⟨hin, hlt⟩ := av_inP hc.2
      have hcell := av_arrN hR hc.1.1 hc.1.2 (by omega) (by omega)
      refine W.bast C.1 C.2.1 hcell ((av_ka C (k := 21) (by decide)).1 _ _) (fun q => by cases q) (by rw [arrV_size]; exact hin) rfl rfl hd (fun H' e1 e2 e3 => ?_)
      have e1 : H'[s0.heap.size + o]? = some ((arrV (TY 21) (h.2.2.1 o).2 (fun j => .int (Int32.ofInt (h.2.2.2.1 o j)))).setSlot (av_w i).toNat (.int (Int32.ofInt (av_b x)))) := by
        rw [e1, av_nat, av_byte]
        rfl
      rw [av_nat]
      exact k H' _ ls (av_R_upd hR e2 e3 rfl rfl rfl (fun k hk => ⟨av_u2_ne hk, rfl, rfl, rfl⟩) (av_at_setA hc.1.2 (by omega) (by omega) e1)) (av_locs hl rfl) hL h1 h2
    · split at hs
      · next hc =>
        cases hs
        obtain ⟨hin, hlt⟩ := av_inP hc.2.1
        have hcell := av_arrN hR hc.1.1 hc.1.2 (by omega) (by omega)
        refine W.zast C.1 C.2.1 hcell ((av_ka C (k := 22) (by decide)).1 _ _) (fun q => by cases q) (by rw [arrV_size]; exact hin) rfl rfl hd (fun H' e1 e2 e3 => ?_)
        have e1 : H'[s0.heap.size + o]? = some ((arrV (TY 22) (h.2.2.1 o).2 (fun j => .int (Int32.ofInt (h.2.2.2.1 o j)))).setSlot (av_w i).toNat (.int (Int32.ofInt x))) := by
          rw [e1, av_nat]
          rcases hc.2.2 with rfl | rfl <;> rfl
        rw [av_nat]
        exact k H' _ ls (av_R_upd hR e2 e3 rfl rfl rfl (fun k hk => ⟨av_u2_ne hk, rfl, rfl, rfl⟩) (av_at_setA hc.1.2 (by omega) (by omega) e1)) (av_locs hl rfl) hL h1 h2
      · cases hs
  · cases hs
end AVP
end
section
/-! ONE STEP: loads, lengths, what is made -/
section AVN
variable {p : Program} {l : Launch} {e : Env} {R : Room} {s : State} {m : MethodId} {args : Array Value} {below : List Frame} {meth : Method} {c : Code} {Q : State → Prop}
variable {a0 : Array Value} {s0 : State} {D : va_G} {TY : Nat → ClassId} {kr : Nat → Nat} {sc : av_Sr} {own nL : Nat} {cc : ByteArray} {ini : Bool} {h0 hf h h' : av_H} {pc pc' : Nat} {lv lv' : av_L} {st st' : List av_V}

/-- the script, as the start has it -/
def av_Sc (s0 : State) (kr : Nat → Nat) (sc : av_Sr) : Prop := match sc with
  | none => True
  | some q => va_X (kr 100) q.1 (fun j => Int32.ofInt (q.2 j)) s0 s0.heap ∧ kr 100 < s0.heap.size ∧ q.1 < 2 ^ 31
theorem av_scr {H : Heap} {q : Nat × (Nat → Int)} (C : av_Cx p R s m meth c a0 s0 D TY own nL cc ini h0 hf) (hS : av_Sc s0 kr (some q)) (hR : av_R s0 D TY sc h H) : ∃ scr : Cell, H[kr 100]? = some scr ∧ s.isArrayOf scr .int ∧ scr.vm ≠ .unknown ∧ scr.slots.size = q.1 ∧ ∀ j : Nat, j < q.1 → scr.slots[j]? = some (.int (Int32.ofInt (q.2 j))) := by
  obtain ⟨⟨scr, g1, g2, g3, g4, g5⟩, g6, -⟩ := hS
  exact ⟨scr, by rw [hR.2.1 _ g6]; exact g1, State.isArrayOf_alike C.2.2.2.2.1.alike g2, g3, g4, g5⟩
theorem av_s_iald (C : av_Cx p R s m meth c a0 s0 D TY own nL cc ini h0 hf) (hS : av_Sc s0 kr sc) (hd : decode cc pc = .ok (.iaload, 1)) (hs : av_ald sc [20] pc lv st h = some (pc', lv', st', h')) (k : av_W p l e R s m args below meth c Q s0 D TY kr sc nL h0 pc' lv' st' h') : av_W p l e R s m args below meth c Q s0 D TY kr sc nL h0 pc lv st h := by
  intro H locs ls hR hl hL h1 h2
  unfold av_ald at hs
  split at hs
  · next i o r =>
    split at hs
    · next hc =>
      cases hs
      obtain ⟨hin, hlt⟩ := av_inP hc.2
      have hk : (h.2.2.1 o).1 = 20 := by simpa using hc.1.2
      have hcell := av_arrN hR hc.1.1 hk (by omega) (by omega)
      refine W.iald C.1 C.2.1 hcell ((av_ka C (k := 20) (by decide)).1 _ _) (fun q => by cases q) (by rw [arrV_size]; exact hin) (v := .int (Int32.ofInt (h.2.2.2.1 o (av_w i).toNat))) ?_ rfl rfl hd (k H locs ls hR hl hL h1 h2)
      rw [av_nat, arrV_read _ _ hlt]
    · cases hs
  · next i r =>
    split at hs
    · cases hs
    · next q =>
      split at hs
      · next hc =>
        cases hs
        obtain ⟨hin, hlt⟩ := av_inP hc.2
        obtain ⟨scr, g1, g2, g3, g4, g5⟩ := av_scr C hS hR
        refine W.iald C.1 C.2.1 g1 g2 g3 (by rw [g4]; exact hin) (v := .int (Int32.ofInt (q.2 (av_w i).toNat))) ?_ rfl rfl hd (k H locs ls hR hl hL h1 h2)
        rw [av_nat]
        exact g5 _ hlt
      · cases hs
  · cases hs
theorem av_s_bald (C : av_Cx p R s m meth c a0 s0 D TY own nL cc ini h0 hf) (hd : decode cc pc = .ok (.baload, 1)) (hs : av_ald sc [21, 22] pc lv st h = some (pc', lv', st', h')) (k : av_W p l e R s m args below meth c Q s0 D TY kr sc nL h0 pc' lv' st' h') : av_W p l e R s m args below meth c Q s0 D TY kr sc nL h0 pc lv st h := by
  intro H locs ls hR hl hL h1 h2
  unfold av_ald at hs
  split at hs
  · next i o r =>
    split at hs
    · next hc =>
      cases hs
      obtain ⟨hin, hlt⟩ := av_inP hc.2
      have hk : (h.2.2.1 o).1 = 21 ∨ (h.2.2.1 o).1 = 22 := by simpa using hc.1.2
      rcases hk with hk | hk
      · have hcell := av_arrN hR hc.1.1 hk (by omega) (by omega)
        refine W.bald C.1 C.2.1 hcell ((av_ka C (k := 21) (by decide)).1 _ _) (fun q => by cases q) (by rw [arrV_size]; exact hin) (v := .int (Int32.ofInt (h.2.2.2.1 o (av_w i).toNat))) ?_ rfl rfl hd (k H locs ls hR hl hL h1 h2)
        rw [av_nat, arrV_read _ _ hlt]
      · have hcell := av_arrN hR hc.1.1 hk (by omega) (by omega)
        refine W.zald C.1 C.2.1 hcell ((av_ka C (k := 22) (by decide)).1 _ _) (fun q => by cases q) (by rw [arrV_size]; exact hin) (v := .int (Int32.ofInt (h.2.2.2.1 o (av_w i).toNat))) ?_ rfl rfl hd (k H locs ls hR hl hL h1 h2)
        rw [av_nat, arrV_read _ _ hlt]
    · cases hs
  · next i r =>
    split at hs
    · cases hs
    · split at hs
      · next hc => exact absurd hc.1 (by decide)
      · cases hs
  · cases hs
theorem av_s_aald (C : av_Cx p R s m meth c a0 s0 D TY own nL cc ini h0 hf) (hd : decode cc pc = .ok (.aaload, 1)) (hs : av_aald pc lv st h = some (pc', lv', st', h')) (k : av_W p l e R s m args below meth c Q s0 D TY kr sc nL h0 pc' lv' st' h') : av_W p l e R s m args below meth c Q s0 D TY kr sc nL h0 pc lv st h := by
  intro H locs ls hR hl hL h1 h2
  unfold av_aald at hs
  split at hs
  · next i o r =>
    split at hs
    · next hc =>
      cases hs
      obtain ⟨hin, hlt⟩ := av_inP hc.2
      have hk : (h.2.2.1 o).1 = 30 ∨ (h.2.2.1 o).1 = 31 ∨ (h.2.2.1 o).1 = 32 := by simpa using hc.1.2
      have go : ∀ kk : Nat, (h.2.2.1 o).1 = kk → 30 ≤ kk → kk ∈ [20, 21, 22, 30, 31, 32] → (av_ft kk).isReference = true → W p l e R s m args below meth c H locs (h.1 - h0.1) (h.2.1 - h0.2.1) Q (F0 m pc ls ((.inl i :: .inr (.inr (.inl (some o))) :: r).map (av_ev s0.heap.size kr))) := by
        intro kk hk h30 hm hr
        have hcell := av_arrR hR hc.1.1 hk h30
        refine W.aald C.1 C.2.1 hcell ((av_ka C hm).1 _ _) hr (fun q => by cases q) (by rw [arrV_size]; exact hin) (v := va_rf ((h.2.2.2.2.2.2.1 o (av_w i).toNat).map (fun q => s0.heap.size + q))) ?_ rfl rfl hd (k H locs ls hR hl hL h1 h2)
        rw [av_nat, arrV_read _ _ hlt]
      rcases hk with hk | hk | hk
      · exact go 30 hk (by omega) (by decide) rfl
      · exact go 31 hk (by omega) (by decide) rfl
      · exact go 32 hk (by omega) (by decide) rfl
    · cases hs
  · cases hs
theorem av_s_alen (C : av_Cx p R s m meth c a0 s0 D TY own nL cc ini h0 hf) (hS : av_Sc s0 kr sc) (hd : decode cc pc = .ok (.arraylength, 1)) (hs : av_alen sc pc lv st h = some (pc', lv', st', h')) (k : av_W p l e R s m args below meth c Q s0 D TY kr sc nL h0 pc' lv' st' h') : av_W p l e R s m args below meth c Q s0 D TY kr sc nL h0 pc lv st h := by
  intro H locs ls hR hl hL h1 h2
  unfold av_alen at hs
  split at hs
  · next o r =>
    split at hs
    · next hc =>
      cases hs
      have kk := k H locs ls hR hl hL h1 h2
      have hm := hc.2
      have hcell : ∃ f, H[s0.heap.size + o]? = some (arrV (TY (h.2.2.1 o).1) (h.2.2.1 o).2 f) := by
        by_cases q : (h.2.2.1 o).1 < 30
        · have q9 : 9 ≤ (h.2.2.1 o).1 := by
            simp only [List.mem_cons, List.not_mem_nil, or_false] at hm
            omega
          exact ⟨_, av_arrN hR hc.1 rfl q9 q⟩
        · exact ⟨_, av_arrR hR hc.1 rfl (by omega)⟩
      obtain ⟨f, hcell⟩ := hcell
      refine W.alen C.1 C.2.1 hcell ((av_ka C hm).1 _ _) (n := Int32.ofInt ((h.2.2.1 o).2 : Int)) ?_ rfl rfl hd kk
      rw [arrV_size]
      exact (Int32.ofInt_eq_ofNat (n := (h.2.2.1 o).2)).symm
    · cases hs
  · next r =>
    split at hs
    · cases hs
    · next q =>
      cases hs
      have kk := k H locs ls hR hl hL h1 h2
      obtain ⟨scr, g1, g2, g3, g4, g5⟩ := av_scr C hS hR
      refine W.alen C.1 C.2.1 g1 g2 (n := Int32.ofInt ((q.1 : Nat) : Int)) ?_ rfl rfl hd kk
      rw [g4]
      exact (Int32.ofInt_eq_ofNat (n := q.1)).symm
  · cases hs
theorem av_s_newa {t : ArrayType} (C : av_Cx p R s m meth c a0 s0 D TY own nL cc ini h0 hf) (hd : decode cc pc = .ok (.newarray t, 2)) (hac : Cond.arrayClass (newarray.typeOf t) ∈ lw_tbl) (hs : av_newa t pc lv st h = some (pc', lv', st', h')) (hle : h'.1 ≤ hf.1 ∧ h'.2.1 ≤ hf.2.1) (k : av_W p l e R s m args below meth c Q s0 D TY kr sc nL h0 pc' lv' st' h') : av_W p l e R s m args below meth c Q s0 D TY kr sc nL h0 pc lv st h := by
  intro H locs ls hR hl hL h1 h2
  unfold av_newa at hs
  split at hs
  · next n r =>
    split at hs
    · next hc =>
      cases hs
      obtain ⟨c1, c2, c3⟩ := hc
      simp only [av_newN] at hle
      have hroom : h.1 - h0.1 + 1 ≤ R.cells ∧ h.2.1 - h0.2.1 + (av_w n).toNat ≤ R.slots := by
        have := C.2.2.2.2.2.2.2
        omega
      have hty : ∃ kk : Nat, av_atk t = kk ∧ kk ∈ [20, 21, 22, 30, 31, 32] ∧ 9 ≤ kk ∧ kk < 30 ∧ newarray.typeOf t = av_ft kk ∧ componentBytes (newarray.typeOf t) ≤ 4 ∧ defaultValue (newarray.typeOf t) = .int 0 ∧ ("[" ++ (newarray.typeOf t).toString) = ("[" ++ (av_ft kk).toString) := by
        cases t <;> first | exact absurd rfl c1 | exact ⟨_, rfl, by decide, by decide, by decide, rfl, by decide, rfl, rfl⟩
      obtain ⟨kk, e1, e2, e3, e4, e5, e6, e7, e8⟩ := hty
      have hka := av_ka C e2
      refine va_newaK C.1 C.2.1 (av_wdA C hac) rfl hd (n := Int32.ofInt n) rfl (by rw [av_lt0]; omega) (av_nat n) (by
        have : (av_w n).toNat ≤ 100000 := by omega
        calc (av_w n).toNat * componentBytes (newarray.typeOf t) ≤ 100000 * 4 := Nat.mul_le_mul this e6
          _ ≤ 536870912 := by decide) hroom.1 hroom.2 rfl (fun H' cA f1 f2 f3 f4 f5 => ?_)
      have hcA : cA = TY kk := by
        have hra := hka.2
        rw [e8] at f5
        have hn : s.vm.findClass ("[" ++ (av_ft kk).toString) = some (TY kk) := by
          simp only [List.mem_cons, List.not_mem_nil, or_false] at e2
          rcases e2 with rfl | rfl | rfl | rfl | rfl | rfl <;> first | exact hra | omega
        exact Option.some.inj (f5.symm.trans hn)
      subst hcA
      rw [e7] at f1
      have hsz := hR.1
      have hR' : av_R s0 D TY sc (av_newN kk (av_w n).toNat (fun _ => 0) h) H' := by
        refine av_R_new hR f2 f3 rfl rfl (fun q hq => ⟨av_u1_ne hq, av_u1_ne hq, rfl, rfl, rfl⟩) ?_
        unfold av_at
        simp only [av_newN, av_u1_self]
        rw [if_neg (by omega), if_pos e4, ← hsz]
        exact f1
      rw [e1] at k
      have kk9 := k H' locs ls hR' hl hL (by simp only [av_newN]; omega) (by simp only [av_newN]; omega)
      have g1 : (av_newN kk (av_w n).toNat (fun _ => 0) h).1 - h0.1 = h.1 - h0.1 + 1 := by simp only [av_newN]; omega
      have g2 : (av_newN kk (av_w n).toNat (fun _ => 0) h).2.1 - h0.2.1 = h.2.1 - h0.2.1 + (av_w n).toNat := by simp only [av_newN]; omega
      rw [g1, g2] at kk9
      rw [hsz]
      exact kk9
    · cases hs
  · cases hs
end AVN
end
section
/-! ONE STEP: objects, rows of references, rows of rows -/
section AVM
variable {p : Program} {l : Launch} {e : Env} {R : Room} {s : State} {m : MethodId} {args : Array Value} {below : List Frame} {meth : Method} {c : Code} {Q : State → Prop}
variable {a0 : Array Value} {s0 : State} {D : va_G} {TY : Nat → ClassId} {kr : Nat → Nat} {sc : av_Sr} {own nL : Nat} {cc : ByteArray} {ini : Bool} {h0 hf h h' : av_H} {pc pc' : Nat} {lv lv' : av_L} {st st' : List av_V}

theorem av_ra {k : Nat} (C : av_Cx p R s m meth c a0 s0 D TY own nL cc ini h0 hf) (hk : k ∈ [20, 21, 22, 30, 31, 32]) : s.vm.findClass ("[" ++ (av_ft k).toString) = some (TY k) := by
  have hra := (av_ka C hk).2
  simp only [List.mem_cons, List.not_mem_nil, or_false] at hk
  rcases hk with rfl | rfl | rfl | rfl | rfl | rfl
  · exact hra
  · exact hra
  · exact hra
  · obtain ⟨_, _, _, _, _, q⟩ := hra
    exact q
  · obtain ⟨_, _, _, _, _, q⟩ := hra
    exact q
  · exact hra
theorem av_dfl : ∀ ci, ci < 9 → ∀ j, j < av_N ci → defaultValue (av_ty ci j) = (match av_tg (av_ty ci j) with
    | 1 => .long 0
    | 2 => .null
    | _ => .int 0) := by decide +kernel
theorem av_outer (c : ClassId) (N h0 : Nat) : ∀ i : Nat, Jvm.Free.Multi.outerC c N h0 i = arrV c N (fun j => va_rf (if j < i then some (h0 + 1 + j) else none))
  | 0 => by
    show ({ cls := c, slots := Array.replicate N .null, vm := .none } : Cell) = _
    rw [arrV_new]
    refine congrArg (arrV c N) (funext fun j => ?_)
    simp [va_rf]
  | i + 1 => by
    show (Jvm.Free.Multi.outerC c N h0 i).setSlot i (.ref (h0 + 1 + i)) = _
    rw [av_outer c N h0 i, arrV_store]
    refine congrArg (arrV c N) (funext fun j => ?_)
    by_cases e : j = i
    · subst e
      simp [updV, va_rf]
    · by_cases h : j < i
      · simp [updV, e, h, Nat.lt_succ_of_lt h]
      · simp [updV, e, h, show ¬ j < i + 1 by omega]
theorem av_s_new {x : av_E} {idx : Nat} (C : av_Cx p R s m meth c a0 s0 D TY own nL cc ini h0 hf) (hd : decode cc pc = .ok (.new idx, 3)) (hci : x.2.2.1 < 9) (hlk : Cond.classLink (av_cn own) idx (av_cn x.2.2.1) ∈ lw_tbl) (hle : (av_newO x.2.2.1 (av_N x.2.2.1) h).1 ≤ hf.1 ∧ (av_newO x.2.2.1 (av_N x.2.2.1) h).2.1 ≤ hf.2.1) (k : av_W p l e R s m args below meth c Q s0 D TY kr sc nL h0 (pc + 3) lv (.inr (.inr (.inl (some h.1))) :: st) (av_newO x.2.2.1 (av_N x.2.2.1) h)) : av_W p l e R s m args below meth c Q s0 D TY kr sc nL h0 pc lv st h := by
  intro H locs ls hR hl hL h1 h2
  simp only [av_newO] at hle
  have hroom : h.1 - h0.1 + 1 ≤ R.cells ∧ h.2.1 - h0.2.1 + av_N x.2.2.1 ≤ R.slots := by
    have := C.2.2.2.2.2.2.2
    omega
  have hK := av_kn C hci
  have hin := av_inst x.2.2.1 hci
  refine W.newcK C.1 C.2.1 C.2.2.2.1 (av_wd C hlk rfl) (av_wd C hin.1 rfl) (av_wd C hin.2 rfl) rfl hd hroom.1 hroom.2 hK.2.1 rfl (fun H' kC e1 e2 e3 e4 => ?_)
  have hsz := hR.1
  have hb := u_born (args := args) (av_ty x.2.2.1) (av_hts C hci) (fun w hw => hw) hK e1 e2 (av_tyok x.2.2.1 hci)
  have hR' : av_R s0 D TY sc (av_newO x.2.2.1 (av_N x.2.2.1) h) H' := by
    refine av_R_new hR e3 e4 rfl rfl (fun q hq => ⟨av_u1_ne hq, rfl, av_u1_ne hq, av_u1_ne hq, rfl⟩) ?_
    unfold av_at
    simp only [av_newO, av_u1_self]
    rw [if_pos hci, ← hsz]
    refine hb.to (fun j hj => ?_)
    rw [av_dfl _ hci j hj]
    unfold av_fv
    simp only [av_u1_self]
    generalize av_tg (av_ty x.2.2.1 j) = tg
    rcases tg with _ | _ | _ | tg <;> rfl
  have kk := k H' locs ls hR' hl hL (by simp only [av_newO]; omega) (by simp only [av_newO]; omega)
  have g1 : (av_newO x.2.2.1 (av_N x.2.2.1) h).1 - h0.1 = h.1 - h0.1 + 1 := by simp only [av_newO]; omega
  have g2 : (av_newO x.2.2.1 (av_N x.2.2.1) h).2.1 - h0.2.1 = h.2.1 - h0.2.1 + av_N x.2.2.1 := by simp only [av_newO]; omega
  rw [g1, g2] at kk
  rw [hsz]
  exact kk
theorem av_s_anew {x : av_E} {idx : Nat} {C0 : String} (C : av_Cx p R s m meth c a0 s0 D TY own nL cc ini h0 hf) (hd : decode cc pc = .ok (.anewarray idx, 3)) (hft : av_ft x.2.2.1 = .object C0) (hlk : Cond.classLink (av_cn own) idx C0 ∈ lw_tbl) (hov : Cond.arrayOver (.object C0) ∈ lw_tbl) (hs : av_anew x.2.2.1 pc lv st h = some (pc', lv', st', h')) (hle : h'.1 ≤ hf.1 ∧ h'.2.1 ≤ hf.2.1) (k : av_W p l e R s m args below meth c Q s0 D TY kr sc nL h0 pc' lv' st' h') : av_W p l e R s m args below meth c Q s0 D TY kr sc nL h0 pc lv st h := by
  intro H locs ls hR hl hL h1 h2
  unfold av_anew at hs
  split at hs
  · next n r =>
    split at hs
    · next hc =>
      cases hs
      obtain ⟨c1, c2, c3⟩ := hc
      simp only [av_newR] at hle
      have hroom : h.1 - h0.1 + 1 ≤ R.cells ∧ h.2.1 - h0.2.1 + (av_w n).toNat ≤ R.slots := by
        have := C.2.2.2.2.2.2.2
        omega
      have hm : x.2.2.1 ∈ [20, 21, 22, 30, 31, 32] := by rcases c1 with q | q <;> rw [q] <;> decide
      have hov' : va_AO C0 s := va_AO.moved C.2.2.2.2.1.alike (va_AO.of (C.2.2.2.2.2.1.1 _ hov))
      refine W.anew C.1 C.2.1 C.2.2.2.1 (av_wd C hlk rfl) (va_AO.use hov') rfl hd (n := Int32.ofInt n) rfl (by rw [av_lt0]; omega) (by rw [av_nat]; omega) hroom.1 (by rw [av_nat]; exact hroom.2) (fun cA kA comp f1 f2 f3 f4 => ?_)
      have hn := av_ra C hm
      rw [hft] at hn
      have hcA : cA = TY x.2.2.1 := Option.some.inj (f1.symm.trans hn)
      subst hcA
      have hsz := hR.1
      have hR' : av_R s0 D TY sc (av_newR x.2.2.1 (av_w n).toNat h) (H.push { cls := TY x.2.2.1, slots := Array.replicate (Int32.ofInt n).toNatClampNeg .null, vm := .none }) := by
        refine av_R_new hR (Array.size_push _) (fun q hq => by rw [Array.getElem?_push, if_neg (Nat.ne_of_lt hq)]) rfl rfl (fun q hq => ⟨av_u1_ne hq, rfl, rfl, rfl, av_u1_ne hq⟩) ?_
        unfold av_at
        simp only [av_newR, av_u1_self]
        rw [if_neg (by omega), if_neg (by omega), ← hsz, Array.getElem?_push_size, arrV_new, av_nat]
        rfl
      have kk := k _ locs ls hR' hl hL (by simp only [av_newR]; omega) (by simp only [av_newR]; omega)
      have g1 : (av_newR x.2.2.1 (av_w n).toNat h).1 - h0.1 = h.1 - h0.1 + 1 := by simp only [av_newR]; omega
      have g2 : (av_newR x.2.2.1 (av_w n).toNat h).2.1 - h0.2.1 = h.2.1 - h0.2.1 + (av_w n).toNat := by simp only [av_newR]; omega
      rw [g1, g2, ← av_nat] at kk
      rw [hsz]
      exact kk
    · cases hs
  · cases hs
theorem av_s_mnew {idx : Nat} (C : av_Cx p R s m meth c a0 s0 D TY own nL cc ini h0 hf) (hd : decode cc pc = .ok (.multianewarray idx 2, 4)) (hlk : Cond.classLink (av_cn own) idx ("[" ++ (FieldType.array .int).toString) ∈ lw_tbl) (hov : Cond.arrayOver (.array .int) ∈ lw_tbl) (hac : Cond.arrayClass .int ∈ lw_tbl) (hs : av_mnew pc lv st h = some (pc', lv', st', h')) (hle : h'.1 ≤ hf.1 ∧ h'.2.1 ≤ hf.2.1) (k : av_W p l e R s m args below meth c Q s0 D TY kr sc nL h0 pc' lv' st' h') : av_W p l e R s m args below meth c Q s0 D TY kr sc nL h0 pc lv st h := by
  intro H locs ls hR hl hL h1 h2
  unfold av_mnew at hs
  split at hs
  · next d n r =>
    split at hs
    · next hc =>
      cases hs
      obtain ⟨⟨c1, c2⟩, c3, c4⟩ := hc
      have e1 := av_nat n
      have e2 := av_nat d
      generalize hN : (av_w n).toNat = N at *
      generalize hM : (av_w d).toNat = M at *
      have hNM : N * M ≤ 1000 * 1000 := Nat.mul_le_mul (by omega) (by omega)
      simp only [av_newM] at hle
      have hroom : h.1 - h0.1 + (1 + N) ≤ R.cells ∧ h.2.1 - h0.2.1 + (N + N * M) ≤ R.slots := by
        have := C.2.2.2.2.2.2.2
        omega
      have hov' := over_moved (a' := args) C.2.2.2.2.1.alike (C.2.2.2.2.2.1.1 _ hov)
      intro T hT Xs
      obtain ⟨vm₁, cA, comp, -, fA, fC, hO, -, X', step⟩ := Xs.multianewarray2F C.1 C.2.2.2.1 (av_wd C hlk rfl) hov' (av_wdA C hac) (g := F0 m pc ls (.int (Int32.ofInt d) :: .int (Int32.ofInt n) :: r.map (av_ev s0.heap.size kr))) rfl (by rw [C.2.1]; exact hd) rfl (by rw [av_lt0]; omega) (by rw [av_lt0]; omega) (by omega) (by rw [e2]; show M * 4 ≤ 536870912; omega) (by omega) rfl rfl (by rw [e1]; exact hroom.1) (by rw [e1, e2]; exact hroom.2)
      have hcA : cA = TY 32 := Option.some.inj (fA.symm.trans (av_ra C (k := 32) (by decide)))
      have hcC : comp = TY 20 := Option.some.inj (fC.symm.trans (av_ra C (k := 20) (by decide)))
      subst hcA
      subst hcC
      rw [e1, e2] at X' step
      have hsz := hR.1
      generalize hF : Jvm.Free.Multi.fill (T.setVm vm₁) (TY 32) (TY 20) N M (defaultValue .int) N = F at X' step
      have hTh : (T.setVm vm₁).heap = H := hT
      obtain ⟨f1, f2, -, -⟩ := Jvm.Free.Multi.fill_facts (T.setVm vm₁) (TY 32) (TY 20) N M (defaultValue .int) N
      rw [hF, hTh] at f1 f2
      have hold : ∀ x : Nat, x < H.size → F.heap[x]? = H[x]? := fun x hx => by
        have := Jvm.Free.Multi.fill_old (T.setVm vm₁) (TY 32) (TY 20) N M (defaultValue .int) (a := x) (by rw [hTh]; exact hx) N
        rw [hF, hTh] at this
        exact this
      have hrow : ∀ j : Nat, j < N → F.heap[H.size + 1 + j]? = some (arrV (TY 20) M (fun _ => .int 0)) := fun j hj => by
        have := Jvm.Free.Multi.fill_inner (T.setVm vm₁) (TY 32) (TY 20) N M (defaultValue .int) N j hj
        rw [hF, hTh] at this
        rw [this]
        exact congrArg some (arrV_new (TY 20) M (.int 0))
      rw [av_outer] at f2
      have hR' : av_R s0 D TY sc (av_newM N M h) F.heap := by
        obtain ⟨r1, r2, r3, r4⟩ := hR
        refine ⟨by simp only [av_newM]; omega, fun q hq => (hold q (by omega)).trans (r2 q hq), trivial, fun q hq => ?_⟩
        simp only [av_newM] at hq
        by_cases q1 : q = h.1
        · subst q1
          unfold av_at
          simp only [av_newM, if_true, av_u1_self]
          rw [if_neg (by omega), if_neg (by omega), ← r1, f2]
          congr 2
          funext j
          by_cases hj : j < N
          · simp only [if_pos hj, Option.map_some]
            congr 2
            omega
          · simp only [if_neg hj, Option.map_none]
        · by_cases q2 : q < h.1
          · refine av_at_eq (r4 q q2) (hold _ (by omega)) ?_ ?_ rfl rfl (av_u1_ne q1)
            · simp only [av_newM]
              rw [if_neg q1, if_neg (by omega)]
            · funext j
              simp only [av_newM]
              rw [if_neg (by omega)]
          · have q3 : h.1 < q ∧ q < h.1 + 1 + N := by omega
            have hkd : (av_newM N M h).2.2.1 q = (20, M) := by
              simp only [av_newM]
              rw [if_neg q1, if_pos q3]
            have hkA : (av_newM N M h).2.2.2.1 q = fun _ => 0 := by
              funext j
              simp only [av_newM]
              rw [if_pos q3]
            unfold av_at
            rw [hkd, hkA, if_neg (show ¬ (20 : Nat) < 9 by omega), if_pos (show (20 : Nat) < 30 by omega)]
            obtain ⟨j, rfl⟩ : ∃ j, q = h.1 + 1 + j := ⟨q - (h.1 + 1), by omega⟩
            have := hrow j (by omega)
            rw [show s0.heap.size + (h.1 + 1 + j) = H.size + 1 + j by omega, this]
            rfl
      have kk := k F.heap locs ls hR' hl hL (by simp only [av_newM]; omega) (by simp only [av_newM]; omega)
      have g1 : (av_newM N M h).1 - h0.1 = h.1 - h0.1 + 1 + N := by simp only [av_newM]; omega
      have g2 : (av_newM N M h).2.1 - h0.2.1 = h.2.1 - h0.2.1 + N + N * M := by simp only [av_newM]; omega
      rw [g1, g2] at kk
      obtain ⟨t, b1, b2⟩ := kk F rfl X'
      refine ⟨t, step t ?_, b2⟩
      rw [hT, hsz]
      exact b1
    · cases hs
  · cases hs
end AVM
end
section
/-! ONE STEP: the library's own members, constants -/
section AVB
variable {p : Program} {l : Launch} {e : Env} {R : Room} {s : State} {m : MethodId} {args : Array Value} {below : List Frame} {meth : Method} {c : Code} {Q : State → Prop}
variable {a0 : Array Value} {s0 : State} {D : va_G} {TY : Nat → ClassId} {kr : Nat → Nat} {sc : av_Sr} {own nL : Nat} {cc : ByteArray} {ini : Bool} {h0 hf h h' : av_H} {pc pc' : Nat} {lv lv' : av_L} {st st' : List av_V}

theorem av_cats {z : Nat} {kr : Nat → Nat} (r : List av_V) : ((r.map (av_ev z kr)).map fun v => v.category).sum = (r.map av_cat).sum := by
  rw [List.map_map]
  congr 1
  exact List.map_congr_left (fun v _ => av_ev_cat z kr v)
theorem av_s_aast (C : av_Cx p R s m meth c a0 s0 D TY own nL cc ini h0 hf) (hd : decode cc pc = .ok (.aastore, 1)) (hs : av_aast pc lv st h = some (pc', lv', st', h')) (k : av_W p l e R s m args below meth c Q s0 D TY kr sc nL h0 pc' lv' st' h') : av_W p l e R s m args below meth c Q s0 D TY kr sc nL h0 pc lv st h := by
  intro H locs ls hR hl hL h1 h2
  unfold av_aast at hs
  split at hs
  · next v i o r =>
    split at hs
    · next hc =>
      cases hs
      obtain ⟨⟨ho, hk⟩, hi, hv⟩ := hc
      obtain ⟨hin, hlt⟩ := av_inP hi
      have go : ∀ (kk ci : Nat), (h.2.2.1 o).1 = kk → 30 ≤ kk → kk ∈ [20, 21, 22, 30, 31, 32] → ci < 9 → av_ft kk = .object (av_cn ci) → (∀ q, v = some q → q < h.1 ∧ (h.2.2.1 q).1 = ci) → W p l e R s m args below meth c H locs (h.1 - h0.1) (h.2.1 - h0.2.1) Q (F0 m pc ls ((.inr (.inr (.inl v)) :: .inl i :: .inr (.inr (.inl (some o))) :: st').map (av_ev s0.heap.size kr))) := by
        intro kk ci hk h30 hm hci hft hq
        have hcell := av_arrR hR ho hk h30
        obtain ⟨ka, kra⟩ := av_ka C hm
        rw [hft] at ka kra
        have fin : ∀ (H' : Heap), H'[s0.heap.size + o]? = some ((arrV (TY kk) (h.2.2.1 o).2 (fun j => va_rf ((h.2.2.2.2.2.2.1 o j).map (fun q => s0.heap.size + q)))).setSlot (Int32.ofInt i).toNatClampNeg (va_rf (v.map (fun q => s0.heap.size + q)))) → H'.size = H.size → (∀ q, q ≠ s0.heap.size + o → H'[q]? = H[q]?) → W p l e R s m args below meth c H' (locs ++ [⟨s0.heap.size + o, (Int32.ofInt i).toNatClampNeg⟩]) (h.1 - h0.1) (h.2.1 - h0.2.1) Q (F0 m (pc + 1) ls (st'.map (av_ev s0.heap.size kr))) := by
          intro H' e1 e2 e3
          rw [av_nat] at e1
          exact k H' _ ls (av_R_upd hR e2 e3 rfl rfl rfl (fun k hk => ⟨rfl, rfl, rfl, av_u2_ne hk⟩) (av_at_setR hk h30 e1)) (av_locs hl rfl) hL h1 h2
        cases v with
        | none => exact va_WaastN (C := av_cn ci) C.1 C.2.1 hcell (ka _ _) (fun q => by cases q) (by rw [arrV_size]; exact hin) rfl rfl hd (fun H' e1 e2 e3 => fin H' e1 e2 e3)
        | some q =>
          obtain ⟨hq1, hq2⟩ := hq q rfl
          have hat := hR.2.2.2 q hq1
          unfold av_at at hat
          rw [if_pos (by rw [hq2]; exact hci), hq2] at hat
          obtain ⟨cv, g1, g2, g3, -⟩ := hat
          have hcls := (av_kn C hci).2
          obtain ⟨kA, comp, k1, k2, k3, -⟩ := kra
          have hcomp : comp = D.1 ci := Option.some.inj (k3.symm.trans hcls.1)
          subst hcomp
          obtain ⟨kC, hkC, -⟩ := hcls.2
          exact W.aast C.1 C.2.1 hcell (fun q h => by cases h) (fun h => by cases h) k1 k2 rfl hkC ⟨fun q => hin (Or.inl q), by rw [arrV_size, av_nat]; exact hlt⟩ g1 (fun q h => by rw [g3] at h; cases h) (by rw [g2]; exact hkC) (by rw [g2]; exact va_assign hcls) rfl rfl hd (fun H' e1 e2 e3 => fin H' e1 e2 e3)
      rcases hk with hk | hk
      · refine go 30 1 hk (by omega) (by decide) (by omega) rfl (fun q hq => ?_)
        subst hq
        have := of_decide_eq_true hv
        rw [if_pos hk] at this
        exact this
      · refine go 31 5 hk (by omega) (by decide) (by omega) rfl (fun q hq => ?_)
        subst hq
        have := of_decide_eq_true hv
        rw [if_neg (by omega)] at this
        exact this
    · cases hs
  · cases hs
theorem av_s_objInit {idx : Nat} {v : Nat} {r : List av_V} (C : av_Cx p R s m meth c a0 s0 D TY own nL cc ini h0 hf) (hd : decode cc pc = .ok (.invokespecial idx, 3)) (hlk : Cond.methodLink (av_cn own) idx Lib.objectInit ∈ lw_tbl) (hin : Cond.instanceMethod Lib.objectInit ∈ lw_tbl) (hco : Cond.code Lib.objectInit ⟨#[0xb1]⟩ 1 none ∈ lw_tbl) (hr : (r.map av_cat).sum ≤ 8) (hfr : 1 ≤ R.frames) (hlo : 40 ≤ R.locals) (k : av_W p l e R s m args below meth c Q s0 D TY kr sc nL h0 (pc + 3) lv r h) : av_W p l e R s m args below meth c Q s0 D TY kr sc nL h0 pc lv (.inr (.inr (.inl (some v))) :: r) h :=
  fun H locs ls hR hl hL h1 h2 => W.objInit C.1 C.2.1 C.2.2.2.1 (av_wd C hlk rfl) (av_wd C hin rfl) (av_wd C hco rfl) rfl (hL.1.trans C.2.2.1.symm) rfl hd hfr (by
    have := lv_room (m := m) (pc := pc) (ls := ls) (rest := r.map (av_ev s0.heap.size kr)) (st := r.map (av_ev s0.heap.size kr)) (by rw [av_cats]; exact hr)
    show 2 * 0 + _ + 12 ≤ _
    rw [av_cats]
    omega) (k H locs ls hR hl hL h1 h2)
theorem av_s_max {idx : Nat} {x y : Int} {r : List av_V} (C : av_Cx p R s m meth c a0 s0 D TY own nL cc ini h0 hf) (hd : decode cc pc = .ok (.invokestatic idx, 3)) (hlk : Cond.methodLink (av_cn own) idx Lib.Math.max.name ∈ lw_tbl) (hst : Cond.static Lib.Math.max.name ∈ lw_tbl) (hini : Cond.initialized "java/lang/Math" ∈ lw_tbl) (hco : Cond.code Lib.Math.max.name Lib.Math.max.code 2 (some .int) ∈ lw_tbl) (hr : (r.map av_cat).sum ≤ 8) (hfr : 1 ≤ R.frames) (hlo : 40 ≤ R.locals) (hle : h.1 ≤ hf.1 ∧ h.2.1 ≤ hf.2.1) (k : av_W p l e R s m args below meth c Q s0 D TY kr sc nL h0 (pc + 3) lv (.inl (if av_w x < av_w y then y else x) :: r) h) : av_W p l e R s m args below meth c Q s0 D TY kr sc nL h0 pc lv (.inl y :: .inl x :: r) h := by
  intro H locs ls hR hl hL h1 h2
  have hrm := C.2.2.2.2.2.2.2
  refine va_mmax C.1 C.2.1 (C.2.2.1.trans hL.1.symm) C.2.2.2.1 (av_wd C hlk rfl) (av_wd C hst rfl) (av_wd C hini rfl) (av_wd C hco rfl) hfr (by rw [av_cats]; omega) (by omega) (by omega) hd (lv_topi (fun v hv => ?_))
  have hv : v = Int32.ofInt (if av_w x < av_w y then y else x) := by
    rw [hv]
    by_cases q : av_w x < av_w y
    · rw [if_pos q, if_pos ((av_lt x y).mpr q)]
    · rw [if_neg q, if_neg (fun z => q ((av_lt x y).mp z))]
  subst hv
  exact k H locs ls hR hl hL h1 h2
theorem av_s_min {idx : Nat} {x y : Int} {r : List av_V} (C : av_Cx p R s m meth c a0 s0 D TY own nL cc ini h0 hf) (hd : decode cc pc = .ok (.invokestatic idx, 3)) (hlk : Cond.methodLink (av_cn own) idx Lib.Math.min.name ∈ lw_tbl) (hst : Cond.static Lib.Math.min.name ∈ lw_tbl) (hini : Cond.initialized "java/lang/Math" ∈ lw_tbl) (hco : Cond.code Lib.Math.min.name Lib.Math.min.code 2 (some .int) ∈ lw_tbl) (hr : (r.map av_cat).sum ≤ 8) (hfr : 1 ≤ R.frames) (hlo : 40 ≤ R.locals) (hle : h.1 ≤ hf.1 ∧ h.2.1 ≤ hf.2.1) (k : av_W p l e R s m args below meth c Q s0 D TY kr sc nL h0 (pc + 3) lv (.inl (if av_w y < av_w x then y else x) :: r) h) : av_W p l e R s m args below meth c Q s0 D TY kr sc nL h0 pc lv (.inl y :: .inl x :: r) h := by
  intro H locs ls hR hl hL h1 h2
  have hrm := C.2.2.2.2.2.2.2
  refine va_mmin C.1 C.2.1 (C.2.2.1.trans hL.1.symm) C.2.2.2.1 (av_wd C hlk rfl) (av_wd C hst rfl) (av_wd C hini rfl) (av_wd C hco rfl) hfr (by rw [av_cats]; omega) (by omega) (by omega) hd (lv_topi (fun v hv => ?_))
  have hv : v = Int32.ofInt (if av_w y < av_w x then y else x) := by
    rw [hv]
    by_cases q : av_w y < av_w x
    · rw [if_pos q, if_pos ((av_lt y x).mpr q)]
    · rw [if_neg q, if_neg (fun z => q ((av_lt y x).mp z))]
  subst hv
  exact k H locs ls hR hl hL h1 h2
theorem av_nn (x : Int) (h : 0 ≤ av_w x) : (Int32.ofInt x).toInt = (((av_w x).toNat : Nat) : Int) := by
  rw [av_w_eq]
  omega
/-- the row d behind a copy -/
theorem av_at_cpy {H1 : Heap} {z d sp dp n : Nat} {f : Nat → Int} (hk : (h.2.2.1 d).1 = 20) (hc : H1[z + d]? = some (arrV (TY 20) (h.2.2.1 d).2 (fun j => .int (va_cpy (fun i => Int32.ofInt (f i)) (fun i => Int32.ofInt (h.2.2.2.1 d i)) sp dp n j)))) : av_at z D TY (h.1, h.2.1, h.2.2.1, av_cpy h.2.2.2.1 d sp dp n f, h.2.2.2.2) d H1 := by
  unfold av_at
  dsimp only
  rw [if_neg (by omega), if_pos (by omega), hc, hk]
  congr 2
  funext j
  by_cases q : dp ≤ j ∧ j < dp + n
  · simp [va_cpy, av_cpy, q]
  · simp [va_cpy, av_cpy, q]
theorem av_cpy_ne {A : Nat → Nat → Int} {d sp dp n a : Nat} {f : Nat → Int} (h : a ≠ d) : av_cpy A d sp dp n f a = A a := by
  funext j
  simp [av_cpy, h]
theorem av_nfw : nativeFrameWords "java/lang/System" "arraycopy" 5 = 7 := by decide +kernel
theorem av_s_copy {idx d q : Nat} {n dp sp : Int} {r : List av_V} (C : av_Cx p R s m meth c a0 s0 D TY own nL cc ini h0 hf) (hd : decode cc pc = .ok (.invokestatic idx, 3)) (hlk : Cond.methodLink (av_cn own) idx arraycopyName ∈ lw_tbl) (hna : Cond.native arraycopyName ∈ lw_tbl) (hst : Cond.static arraycopyName ∈ lw_tbl) (hini : Cond.initialized "java/lang/System" ∈ lw_tbl) (hr : (r.map av_cat).sum ≤ 8) (hfr : 1 ≤ R.frames) (hlo : 40 ≤ R.locals)
    (hc : (d < h.1 ∧ (h.2.2.1 d).1 = 20) ∧ (q < h.1 ∧ (h.2.2.1 q).1 = 20) ∧ (0 ≤ av_w n ∧ 0 ≤ av_w dp ∧ 0 ≤ av_w sp) ∧ av_w sp + av_w n ≤ (h.2.2.1 q).2 ∧ av_w dp + av_w n ≤ (h.2.2.1 d).2)
    (k : av_W p l e R s m args below meth c Q s0 D TY kr sc nL h0 (pc + 3) lv r (h.1, h.2.1, h.2.2.1, av_cpy h.2.2.2.1 d (av_w sp).toNat (av_w dp).toNat (av_w n).toNat (h.2.2.2.1 q), h.2.2.2.2)) : av_W p l e R s m args below meth c Q s0 D TY kr sc nL h0 pc lv (.inl n :: .inl dp :: .inr (.inr (.inl (some d))) :: .inl sp :: .inr (.inr (.inl (some q))) :: r) h := by
  intro H locs ls hR hl hL h1 h2
  obtain ⟨c1, c2, ⟨c3, c4, c5⟩, c6, c7⟩ := hc
  have hc0 := av_arrN hR c2.1 c2.2 (by omega) (by omega)
  have hc1 := av_arrN hR c1.1 c1.2 (by omega) (by omega)
  obtain ⟨-, k0, hk0, cm0, hkk0⟩ := (av_ka C (k := 20) (by decide)).1 (h.2.2.1 q).2 (fun j => .int (Int32.ofInt (h.2.2.2.1 q j)))
  intro T hT X
  obtain ⟨vm', X', step⟩ := X.arraycopy C.1 C.2.2.2.1 (av_wd C hlk rfl) (av_wd C hna rfl) (av_wd C hst rfl) (av_wd C hini rfl) (src := s0.heap.size + q) (dst := s0.heap.size + d) (cs := arrV (TY 20) (h.2.2.1 q).2 (fun j => .int (Int32.ofInt (h.2.2.2.1 q j)))) (cd := arrV (TY 20) (h.2.2.1 d).2 (fun j => .int (Int32.ofInt (h.2.2.2.1 d j)))) (srcPos := Int32.ofInt sp) (destPos := Int32.ofInt dp) (n := Int32.ofInt n) (by rw [hT]; exact hc0) (by rw [hT]; exact hc1)
    (fun _ h => by cases h) (fun _ h => by cases h) (fun h => by cases h) (fun h => by cases h) hk0 hk0 hkk0 hkk0 (by simp [refKind, av_ft]) (by rw [av_lt0]; omega) (by rw [av_lt0]; omega) (by rw [av_lt0]; omega)
    (by rw [av_nn sp c5, av_nn n c3, arrV_size]; omega)
    (by rw [av_nn dp c4, av_nn n c3, arrV_size]; omega)
    (fun vm₁ _ i hi => by
      rw [av_nat] at hi
      have e : (arrV (TY 20) (h.2.2.1 q).2 (fun j => .int (Int32.ofInt (h.2.2.2.1 q j)))).slots.getD ((Int32.ofInt sp).toNatClampNeg + i) .null = .int (Int32.ofInt (h.2.2.2.1 q ((Int32.ofInt sp).toNatClampNeg + i))) := by
        rw [Array.getD_eq_getD_getElem?, arrV_read _ _ (by rw [av_nat]; omega)]
        rfl
      refine ⟨?_, ?_⟩
      · rw [e]
        rfl
      · rw [e]
        exact trivial)
    (g := F0 m pc ls (.int (Int32.ofInt n) :: .int (Int32.ofInt dp) :: .ref (s0.heap.size + d) :: .int (Int32.ofInt sp) :: .ref (s0.heap.size + q) :: r.map (av_ev s0.heap.size kr))) rfl (by rw [C.2.2.1]; exact hL.1) (rest := r.map (av_ev s0.heap.size kr)) rfl (by rw [C.2.1]; exact hd) hfr (by show 2 * 0 + _ + (nativeFrameWords "java/lang/System" "arraycopy" 5 + 11) ≤ _; rw [av_cats, av_nfw]; omega)
  have e1 : copied (arrV (TY 20) (h.2.2.1 q).2 (fun j => .int (Int32.ofInt (h.2.2.2.1 q j)))) (arrV (TY 20) (h.2.2.1 d).2 (fun j => .int (Int32.ofInt (h.2.2.2.1 d j)))) (Int32.ofInt sp) (Int32.ofInt dp) (Int32.ofInt n) = arrV (TY 20) (h.2.2.1 d).2 (fun j => .int (va_cpy (fun i => Int32.ofInt (h.2.2.2.1 q i)) (fun i => Int32.ofInt (h.2.2.2.1 d i)) (Int32.ofInt sp).toNatClampNeg (Int32.ofInt dp).toNatClampNeg (Int32.ofInt n).toNatClampNeg j)) :=
    va_copied (fun z => .int z) (TY 20) (TY 20) (fun i => Int32.ofInt (h.2.2.2.1 q i)) (fun i => Int32.ofInt (h.2.2.2.1 d i)) (by rw [av_nat, av_nat]; omega)
  rw [e1, av_nat, av_nat, av_nat] at X' step
  have hdl : s0.heap.size + d < H.size := (Array.getElem?_eq_some_iff.mp hc1).1
  have hR' : av_R s0 D TY sc (h.1, h.2.1, h.2.2.1, av_cpy h.2.2.2.1 d (av_w sp).toNat (av_w dp).toNat (av_w n).toNat (h.2.2.2.1 q), h.2.2.2.2) (H.setIfInBounds (s0.heap.size + d) (arrV (TY 20) (h.2.2.1 d).2 (fun j => .int (va_cpy (fun i => Int32.ofInt (h.2.2.2.1 q i)) (fun i => Int32.ofInt (h.2.2.2.1 d i)) (av_w sp).toNat (av_w dp).toNat (av_w n).toNat j)))) := by
    refine av_R_upd (o := d) hR (by simp) (fun x hx => by simp [Array.getElem?_setIfInBounds, Ne.symm hx]) rfl rfl rfl (fun k hk => ⟨av_cpy_ne hk, rfl, rfl, rfl⟩) (av_at_cpy c1.2 ?_)
    simp [Array.getElem?_setIfInBounds, hdl]
  obtain ⟨t, a1, b1⟩ := k _ _ ls hR' (fun x hx => by
      rcases List.mem_append.mp hx with hx | hx
      · exact hl x hx
      · obtain ⟨y, -, hy⟩ := List.mem_map.mp hx
        rw [← hy]
        exact Nat.le_add_right _ _) hL h1 h2 _ (by rw [← hT]; rfl) X'
  exact ⟨t, step t a1, b1⟩

/-- the plain law, as the start has it -/
def av_Pl (s0 : State) (kr : Nat → Nat) : Prop := va_Z RX7 "PLAIN_LAW" "[I" (.ref (kr 101)) (fun q => s0.heap.size ≤ q) s0 s0.heap ∧ va_T .int (kr 101) 14 (fun j => .int (Int32.ofInt (av_plain j))) (fun q => s0.heap.size ≤ q) s0 s0.heap
theorem av_old {H : Heap} (hR : av_R s0 D TY sc h H) : ∀ a : Nat, a < s0.heap.size → ¬ (fun q => s0.heap.size ≤ q) a → H[a]? = s0.heap[a]? := fun a ha _ => hR.2.1 a ha
theorem av_s_copyP {idx d : Nat} {n dp sp : Int} {r : List av_V} (C : av_Cx p R s m meth c a0 s0 D TY own nL cc ini h0 hf) (hPl : av_Pl s0 kr) (hd : decode cc pc = .ok (.invokestatic idx, 3)) (hlk : Cond.methodLink (av_cn own) idx arraycopyName ∈ lw_tbl) (hna : Cond.native arraycopyName ∈ lw_tbl) (hst : Cond.static arraycopyName ∈ lw_tbl) (hini : Cond.initialized "java/lang/System" ∈ lw_tbl) (hr : (r.map av_cat).sum ≤ 8) (hfr : 1 ≤ R.frames) (hlo : 40 ≤ R.locals)
    (hc : (d < h.1 ∧ (h.2.2.1 d).1 = 20) ∧ (0 ≤ av_w n ∧ 0 ≤ av_w dp ∧ 0 ≤ av_w sp) ∧ av_w sp + av_w n ≤ 14 ∧ av_w dp + av_w n ≤ (h.2.2.1 d).2)
    (k : av_W p l e R s m args below meth c Q s0 D TY kr sc nL h0 (pc + 3) lv r (h.1, h.2.1, h.2.2.1, av_cpy h.2.2.2.1 d (av_w sp).toNat (av_w dp).toNat (av_w n).toNat av_plain, h.2.2.2.2)) : av_W p l e R s m args below meth c Q s0 D TY kr sc nL h0 pc lv (.inl n :: .inl dp :: .inr (.inr (.inl (some d))) :: .inl sp :: .inr (.inr (.inr 101)) :: r) h := by
  intro H locs ls hR hl hL h1 h2
  obtain ⟨c1, ⟨c3, c4, c5⟩, c6, c7⟩ := hc
  obtain ⟨scr, hs1, hs2, hs3, hs4, -, hs5, hs7⟩ := (hPl.2.moved C.2.2.2.2.1.alike).kept (av_old hR)
  have hc1 := av_arrN hR c1.1 c1.2 (by omega) (by omega)
  obtain ⟨hs6, k0, hk0, cm0, hkk0⟩ := hs2
  obtain ⟨-, k1, hk1, cm1, hkk1⟩ := (av_ka C (k := 20) (by decide)).1 (h.2.2.1 d).2 (fun j => .int (Int32.ofInt (h.2.2.2.1 d j)))
  intro T hT X
  obtain ⟨vm', X', step⟩ := X.arraycopy C.1 C.2.2.2.1 (av_wd C hlk rfl) (av_wd C hna rfl) (av_wd C hst rfl) (av_wd C hini rfl) (src := kr 101) (dst := s0.heap.size + d) (cs := scr) (cd := arrV (TY 20) (h.2.2.1 d).2 (fun j => .int (Int32.ofInt (h.2.2.2.1 d j)))) (srcPos := Int32.ofInt sp) (destPos := Int32.ofInt dp) (n := Int32.ofInt n) (by rw [hT]; exact hs1) (by rw [hT]; exact hc1)
    hs6 (fun _ h => by cases h) hs3 (fun h => by cases h) hk0 hk1 hkk0 hkk1 (by simp [refKind, av_ft]) (by rw [av_lt0]; omega) (by rw [av_lt0]; omega) (by rw [av_lt0]; omega)
    (by rw [av_nn sp c5, av_nn n c3]; omega)
    (by rw [av_nn dp c4, av_nn n c3, arrV_size]; omega)
    (fun vm₁ _ i hi => by
      rw [av_nat] at hi
      have e : scr.slots.getD ((Int32.ofInt sp).toNatClampNeg + i) .null = .int (Int32.ofInt (av_plain ((Int32.ofInt sp).toNatClampNeg + i))) := by
        rw [Array.getD_eq_getD_getElem?, hs5 _ (by rw [av_nat]; omega)]
        rfl
      refine ⟨?_, ?_⟩
      · rw [e]
        rfl
      · rw [e]
        exact trivial)
    (g := F0 m pc ls (.int (Int32.ofInt n) :: .int (Int32.ofInt dp) :: .ref (s0.heap.size + d) :: .int (Int32.ofInt sp) :: .ref (kr 101) :: r.map (av_ev s0.heap.size kr))) rfl (by rw [C.2.2.1]; exact hL.1) (rest := r.map (av_ev s0.heap.size kr)) rfl (by rw [C.2.1]; exact hd) hfr (by show 2 * 0 + _ + (nativeFrameWords "java/lang/System" "arraycopy" 5 + 11) ≤ _; rw [av_cats, av_nfw]; omega)
  have e1 : copied scr (arrV (TY 20) (h.2.2.1 d).2 (fun j => .int (Int32.ofInt (h.2.2.2.1 d j)))) (Int32.ofInt sp) (Int32.ofInt dp) (Int32.ofInt n) = arrV (TY 20) (h.2.2.1 d).2 (fun j => .int (va_cpy (fun i => Int32.ofInt (av_plain i)) (fun i => Int32.ofInt (h.2.2.2.1 d i)) (Int32.ofInt sp).toNatClampNeg (Int32.ofInt dp).toNatClampNeg (Int32.ofInt n).toNatClampNeg j)) :=
    va_copiedX (fun z => .int z) scr (TY 20) (fun i => Int32.ofInt (av_plain i)) (fun i => Int32.ofInt (h.2.2.2.1 d i)) hs5 (by rw [av_nat, av_nat]; omega)
  rw [e1, av_nat, av_nat, av_nat] at X' step
  have hdl : s0.heap.size + d < H.size := (Array.getElem?_eq_some_iff.mp hc1).1
  have hR' : av_R s0 D TY sc (h.1, h.2.1, h.2.2.1, av_cpy h.2.2.2.1 d (av_w sp).toNat (av_w dp).toNat (av_w n).toNat av_plain, h.2.2.2.2) (H.setIfInBounds (s0.heap.size + d) (arrV (TY 20) (h.2.2.1 d).2 (fun j => .int (va_cpy (fun i => Int32.ofInt (av_plain i)) (fun i => Int32.ofInt (h.2.2.2.1 d i)) (av_w sp).toNat (av_w dp).toNat (av_w n).toNat j)))) := by
    refine av_R_upd (o := d) hR (by simp) (fun x hx => by simp [Array.getElem?_setIfInBounds, Ne.symm hx]) rfl rfl rfl (fun k hk => ⟨av_cpy_ne hk, rfl, rfl, rfl⟩) (av_at_cpy c1.2 ?_)
    simp [Array.getElem?_setIfInBounds, hdl]
  obtain ⟨t, a1, b1⟩ := k _ _ ls hR' (fun x hx => by
      rcases List.mem_append.mp hx with hx | hx
      · exact hl x hx
      · obtain ⟨y, -, hy⟩ := List.mem_map.mp hx
        rw [← hy]
        exact Nat.le_add_right _ _) hL h1 h2 _ (by rw [← hT]; rfl) X'
  exact ⟨t, step t a1, b1⟩
theorem av_s_gets {idx : Nat} (C : av_Cx p R s m meth c a0 s0 D TY own nL cc ini h0 hf) (hPl : av_Pl s0 kr) (hd : decode cc pc = .ok (.getstatic idx, 3)) (hlk : Cond.fieldLink (av_cn own) idx RX7 "PLAIN_LAW" "[I" ∈ lw_tbl ∨ ∃ host, Cond.fieldLinkNest (av_cn own) idx RX7 "PLAIN_LAW" "[I" host ∈ lw_tbl) (k : av_W p l e R s m args below meth c Q s0 D TY kr sc nL h0 (pc + 3) lv (.inr (.inr (.inr 101)) :: st) h) : av_W p l e R s m args below meth c Q s0 D TY kr sc nL h0 pc lv st h := by
  intro H locs ls hR hl hL h1 h2
  obtain ⟨cf, kf, fi, f, a, cell, g1, g2, g3, g4, g5, g6, g7, g8⟩ := (hPl.1.moved C.2.2.2.2.1.alike).kept (av_old hR)
  rcases hlk with hlk | ⟨host, hlk⟩
  · exact W.gets C.1 C.2.1 C.2.2.2.1 (av_wd C hlk rfl) g1 g2 g3 g4 g5 (fun e => by rw [e] at g6; cases g6) g7 rfl hd (k H locs ls hR hl hL h1 h2)
  · exact va_WgetsN C.1 C.2.1 C.2.2.2.1 (av_wdF C hlk) g1 g2 g3 g4 g5 (fun e => by rw [e] at g6; cases g6) g7 rfl hd (k H locs ls hR hl hL h1 h2)
theorem av_s_ldc {idx : Nat} {v : Int} (C : av_Cx p R s m meth c a0 s0 D TY own nL cc ini h0 hf) (hd : decode cc pc = .ok (.ldc idx, 2)) (hc : Cond.constant (av_cn own) idx (Int32.ofInt v) ∈ lw_tbl) (k : av_W p l e R s m args below meth c Q s0 D TY kr sc nL h0 (pc + 2) lv (.inl v :: st) h) : av_W p l e R s m args below meth c Q s0 D TY kr sc nL h0 pc lv st h :=
  fun H locs ls hR hl hL h1 h2 => lv_ldc C.1 C.2.1 C.2.2.2.1 (av_wd C hc rfl) hd (k H locs ls hR hl hL h1 h2)
theorem av_s_ldcw {idx : Nat} {v : Int} (C : av_Cx p R s m meth c a0 s0 D TY own nL cc ini h0 hf) (hd : decode cc pc = .ok (.ldc_w idx, 3)) (hc : Cond.constant (av_cn own) idx (Int32.ofInt v) ∈ lw_tbl) (k : av_W p l e R s m args below meth c Q s0 D TY kr sc nL h0 (pc + 3) lv (.inl v :: st) h) : av_W p l e R s m args below meth c Q s0 D TY kr sc nL h0 pc lv st h :=
  fun H locs ls hR hl hL h1 h2 => lv_ldcw C.1 C.2.1 C.2.2.2.1 (av_wd C hc rfl) hd (k H locs ls hR hl hL h1 h2)
theorem av_s_ldc2 {idx : Nat} {v : Int} (C : av_Cx p R s m meth c a0 s0 D TY own nL cc ini h0 hf) (hd : decode cc pc = .ok (.ldc2_w idx, 3)) (hc : Cond.constantLong (av_cn own) idx (Int64.ofInt v) ∈ lw_tbl) (k : av_W p l e R s m args below meth c Q s0 D TY kr sc nL h0 (pc + 3) lv (.inr (.inl v) :: st) h) : av_W p l e R s m args below meth c Q s0 D TY kr sc nL h0 pc lv st h :=
  fun H locs ls hR hl hL h1 h2 => lv_ldc2 C.1 C.2.1 C.2.2.2.1 (av_wd C hc rfl) hd (k H locs ls hR hl hL h1 h2)
theorem av_s_ldcS {idx q : Nat} {tx : String} (C : av_Cx p R s m meth c a0 s0 D TY own nL cc ini h0 hf) (hd : decode cc pc = .ok (.ldc idx, 2)) (hc : vk_R (av_cn own) idx tx (kr q) s0) (k : av_W p l e R s m args below meth c Q s0 D TY kr sc nL h0 (pc + 2) lv (.inr (.inr (.inr q)) :: st) h) : av_W p l e R s m args below meth c Q s0 D TY kr sc nL h0 pc lv st h :=
  fun H locs ls hR hl hL h1 h2 => va_ldcS C.1 C.2.1 C.2.2.2.1 (hc.warm C.2.2.2.2.1) hd (k H locs ls hR hl hL h1 h2)
theorem av_s_cast {idx o : Nat} {r : List av_V} (C : av_Cx p R s m meth c a0 s0 D TY own nL cc ini h0 hf) (hd : decode cc pc = .ok (.checkcast idx, 3)) (hlk : Cond.classLink (av_cn own) idx "[I" ∈ lw_tbl) (ho : o < h.1 ∧ (h.2.2.1 o).1 = 20) (k : av_W p l e R s m args below meth c Q s0 D TY kr sc nL h0 (pc + 3) lv (.inr (.inr (.inl (some o))) :: r) h) : av_W p l e R s m args below meth c Q s0 D TY kr sc nL h0 pc lv (.inr (.inr (.inl (some o))) :: r) h := by
  intro H locs ls hR hl hL h1 h2
  have hcell := av_arrN hR ho.1 ho.2 (by omega) (by omega)
  exact va_castE C.1 C.2.1 C.2.2.2.1 (av_wd C hlk rfl) ⟨_, hcell, rfl, av_ra C (k := 20) (by decide)⟩ hd (k H locs ls hR hl hL h1 h2)
theorem av_s_clone {idx o : Nat} {r : List av_V} (C : av_Cx p R s m meth c a0 s0 D TY own nL cc ini h0 hf) (hd : decode cc pc = .ok (.invokevirtual idx, 3)) (hlk : Cond.methodLink (av_cn own) idx ⟨"[I", "clone", "()Ljava/lang/Object;"⟩ ∈ lw_tbl) (hsm : Cond.sameMethod "[I" "java/lang/Object" "clone" "()Ljava/lang/Object;" ∈ lw_tbl) (hna : Cond.native ⟨"java/lang/Object", "clone", "()Ljava/lang/Object;"⟩ ∈ lw_tbl) (hin : Cond.instanceMethod ⟨"java/lang/Object", "clone", "()Ljava/lang/Object;"⟩ ∈ lw_tbl)
    (hse : Cond.selects "[I" ⟨"[I", "clone", "()Ljava/lang/Object;"⟩ ⟨"java/lang/Object", "clone", "()Ljava/lang/Object;"⟩ ∈ lw_tbl) (hca : Cond.castable "[I" "java/lang/Cloneable" ∈ lw_tbl) (ho : o < h.1 ∧ (h.2.2.1 o).1 = 20) (hr : (r.map av_cat).sum ≤ 8) (hfr : 1 ≤ R.frames) (hlo : 40 ≤ R.locals) (hle : (av_newN 20 (h.2.2.1 o).2 (h.2.2.2.1 o) h).1 ≤ hf.1 ∧ (av_newN 20 (h.2.2.1 o).2 (h.2.2.2.1 o) h).2.1 ≤ hf.2.1)
    (k : av_W p l e R s m args below meth c Q s0 D TY kr sc nL h0 (pc + 3) lv (.inr (.inr (.inl (some h.1))) :: r) (av_newN 20 (h.2.2.1 o).2 (h.2.2.2.1 o) h)) : av_W p l e R s m args below meth c Q s0 D TY kr sc nL h0 pc lv (.inr (.inr (.inl (some o))) :: r) h := by
  intro H locs ls hR hl hL h1 h2
  simp only [av_newN] at hle
  have hroom : h.1 - h0.1 + 1 ≤ R.cells ∧ h.2.1 - h0.2.1 + (h.2.2.1 o).2 ≤ R.slots := by
    have := C.2.2.2.2.2.2.2
    omega
  have hcell := av_arrN hR ho.1 ho.2 (by omega) (by omega)
  have hnm := av_ra C (k := 20) (by decide)
  have hK : va_K D [] [(TY 20, .int)] s := ⟨fun c q hq => by simp at hq, fun k q hq => by
    rcases k with _ | k
    · cases hq
      exact av_ka C (k := 20) (by decide)
    · simp at hq⟩
  have hsz := hR.1
  obtain ⟨c0, t0', f1, f2, f3⟩ := Cond.castable_spec (va_Nw.use (A := args) rfl (va_Nw.warmC C.2.2.2.2.1 (va_Nw.of rfl (C.2.2.2.2.2.1.1 _ hca))))
  cases hnm.symm.trans f1
  obtain ⟨-, kS, hkS, compS, hkindS⟩ := (av_ka C (k := 20) (by decide)).1 0 (fun _ => .null)
  intro T hT X
  obtain ⟨-, kA, hkA, comp, hkind⟩ := State.isArrayOf_alike X.warmed.alike ((av_ka C (k := 20) (by decide)).1 0 (fun _ => .null))
  have hcellT : T.heap[s0.heap.size + o]? = some (arrV (TY 20) (h.2.2.1 o).2 (fun j => .int (Int32.ofInt (h.2.2.2.1 o j)))) := by rw [hT]; exact hcell
  obtain ⟨vm', X', st'⟩ := X.cloneArray C.1 C.2.2.2.1 (av_wd C hlk rfl) (av_wd C hsm rfl) (av_wd C hna rfl) (av_wd C hin rfl) (av_wd C hse rfl) (a := s0.heap.size + o) (cell := arrV (TY 20) (h.2.2.1 o).2 (fun j => .int (Int32.ofInt (h.2.2.2.1 o j)))) hcellT (fun k h => by cases h) (fun h => by cases h) hnm f2 f3
    (fun i v hv => by
      have hk' : T.vm.classes[TY 20]? = some kA := hkA
      have hft : fits .int v = true := va_fit (fun i _ => rfl) i v hv
      simpa [State.fitsSlot, State.slotType?, arrV, hk', hkind, av_ft] using hft)
    (g := F0 m pc ls (.ref (s0.heap.size + o) :: r.map (av_ev s0.heap.size kr))) rfl (hL.1.trans C.2.2.1.symm) rfl (by rw [C.2.1]; exact hd) hfr (by show 2 * 0 + _ + 14 ≤ _; rw [av_cats]; omega) hroom.1 (by rw [arrV_size]; exact hroom.2) (hloader := Vm.clonesLoader_of_array hkS hkindS)
  have hcE : ({ cls := (arrV (TY 20) (h.2.2.1 o).2 (fun j => .int (Int32.ofInt (h.2.2.2.1 o j)))).cls, slots := (arrV (TY 20) (h.2.2.1 o).2 (fun j => .int (Int32.ofInt (h.2.2.2.1 o j)))).slots } : Cell) = arrV (TY 20) (h.2.2.1 o).2 (fun j => .int (Int32.ofInt (h.2.2.2.1 o j))) := rfl
  rw [hcE, arrV_size] at X'
  have hR' : av_R s0 D TY sc (av_newN 20 (h.2.2.1 o).2 (h.2.2.2.1 o) h) (H.push (arrV (TY 20) (h.2.2.1 o).2 (fun j => .int (Int32.ofInt (h.2.2.2.1 o j))))) := by
    refine av_R_new hR (Array.size_push _) (fun q hq => by rw [Array.getElem?_push, if_neg (Nat.ne_of_lt hq)]) rfl rfl (fun q hq => ⟨av_u1_ne hq, av_u1_ne hq, rfl, rfl, rfl⟩) ?_
    unfold av_at
    simp only [av_newN, av_u1_self]
    rw [if_neg (by omega), if_pos (by omega), ← hsz, Array.getElem?_push_size]
  have kk := k _ locs ls hR' hl hL (by simp only [av_newN]; omega) (by simp only [av_newN]; omega)
  have g1 : (av_newN 20 (h.2.2.1 o).2 (h.2.2.2.1 o) h).1 - h0.1 = h.1 - h0.1 + 1 := by simp only [av_newN]; omega
  have g2 : (av_newN 20 (h.2.2.1 o).2 (h.2.2.2.1 o) h).2.1 - h0.2.1 = h.2.1 - h0.2.1 + (h.2.2.1 o).2 := by simp only [av_newN]; omega
  rw [g1, g2] at kk
  obtain ⟨t, b1, b2⟩ := kk ((T.setVm vm').pushCell (arrV (TY 20) (h.2.2.1 o).2 (fun j => .int (Int32.ofInt (h.2.2.2.1 o j))))) (by rw [← hT]; rfl) X'
  refine ⟨t, st' t ?_, b2⟩
  rw [hcE, hT, hsz]
  exact b1
end AVB
end
section
/-! CALLS: what a call needs of the tables, out of the start's words; the literals' members -/
section AVC
variable {p : Program} {l : Launch} {e : Env} {R : Room} {s : State} {m : MethodId} {args : Array Value} {below : List Frame} {meth : Method} {c : Code} {Q : State → Prop}
variable {a0 : Array Value} {s0 : State} {H : Heap} {locs : List Loc} {cells slots : Nat}
theorem av_go {w : Cond} (hZ : ∀ w ∈ lw_tbl, w.before a0 s0 = true) (hW : s0.WarmedH s.vm) (hw : w ∈ lw_tbl) (hg : (w.onTables && w.keeps) = true) : w.before args s = true := word_at hW (Or.inl hg) (hZ w hw)
theorem av_CB {own : String} {idx maxL n mc ms : Nat} {y : MethodName} {bytes : ByteArray} {ret : Option FieldType} {rm : Room} (hZ : ∀ w ∈ lw_tbl, w.before a0 s0 = true) (hW : s0.WarmedH s.vm) (hrc : rm.cells = mc) (hrs : rm.slots = ms) (hfr : rm.frames + 1 ≤ R.frames) (hlo : 8 + (maxL + 11) + rm.locals ≤ R.locals)
    (hco : Cond.code y bytes maxL ret ∈ lw_tbl) (hini : Cond.initialized y.cls ∈ lw_tbl) (hlk : Cond.methodLink own idx y ∈ lw_tbl) (hy : y.cls ≠ "java/lang/invoke/MethodHandle" ∧ y.cls ≠ "java/lang/invoke/VarHandle") (hn : (parseMethodDescriptor y.desc).map (fun d => d.parameters.length) = some n) :
    CallB R s args own idx y bytes maxL ret [Cond.code y bytes maxL ret] rm mc ms n := by
  refine ⟨hrc, hrs, hfr, hlo, fun w hw a' U hU => ?_, List.mem_cons_self, av_go hZ hW hco rfl, av_go hZ hW hini rfl, hy, fun sig h => ?_, av_go hZ hW hlk rfl⟩
  · rw [List.mem_singleton.mp hw]
    exact av_go hZ (State.WarmedH.trans hW hU) hco rfl
  · rw [h] at hn
    exact (Option.some.inj hn).symm
theorem av_CN {own host : String} {idx maxL n mc ms : Nat} {y : MethodName} {bytes : ByteArray} {ret : Option FieldType} {rm : Room} (hZ : ∀ w ∈ lw_tbl, w.before a0 s0 = true) (hW : s0.WarmedH s.vm) (hrc : rm.cells = mc) (hrs : rm.slots = ms) (hfr : rm.frames + 1 ≤ R.frames) (hlo : 8 + (maxL + 11) + rm.locals ≤ R.locals)
    (hco : Cond.code y bytes maxL ret ∈ lw_tbl) (hini : Cond.initialized y.cls ∈ lw_tbl) (hlk : Cond.methodLinkNest own idx y host ∈ lw_tbl) (hy : y.cls ≠ "java/lang/invoke/MethodHandle" ∧ y.cls ≠ "java/lang/invoke/VarHandle") (hn : (parseMethodDescriptor y.desc).map (fun d => d.parameters.length) = some n) :
    va_CN R s args own idx y host bytes maxL ret [Cond.code y bytes maxL ret] rm mc ms n := by
  refine ⟨⟨hrc, hrs, hfr, hlo, fun w hw a' U hU => ?_, List.mem_cons_self⟩, av_go hZ hW hco rfl, av_go hZ hW hini rfl, hy, fun sig h => ?_, va_Nw.use rfl (va_Nw.warmM hW (va_Nw.of rfl (hZ _ hlk)))⟩
  · rw [List.mem_singleton.mp hw]
    exact av_go hZ (State.WarmedH.trans hW hU) hco rfl
  · rw [h] at hn
    exact (Option.some.inj hn).symm
/-- a call that changes no cell -/
theorem av_callN {g : JFrame} {rest : List Value} {Qa : State → Outcome → State → Prop} {free : Addr → Prop} (v : Option Value) (hr : va_Run p l e R s m args below meth c H locs cells slots 0 0 g rest Qa free) (hq : ∀ (st : State) (o : Outcome) (t : State), Qa st o t → o = .returned v ∧ t.heap = st.heap) (hf : ∀ q, ¬ free q)
    (kk : W p l e R s m args below meth c H locs cells slots Q { g with pc := g.pc + 3, stack := v.toList ++ rest }) : W p l e R s m args below meth c H locs cells slots Q g := by
  intro T hT X
  obtain ⟨v', st₀, t, T', L, e0, X', hL, e1, e2, hqa, st⟩ := hr T hT X
  obtain ⟨hv, hh⟩ := hq _ _ _ hqa
  cases hv
  have hLn : L = [] := by
    cases L with
    | nil => rfl
    | cons x xs => exact absurd (hL x List.mem_cons_self) (hf _)
  subst hLn
  rw [List.append_nil] at X'
  obtain ⟨t2, a1, b1⟩ := kk T' (by rw [e1, hh, e0]) X'
  exact ⟨t2, st t2 a1, b1⟩
/-- nothing of the start's own cells has changed -/
def av_O (s0 U : State) : Prop := s0.WarmedH U.vm ∧ ∀ q : Nat, q < s0.heap.size → U.heap[q]? = s0.heap[q]?
def av_rm (f n : Nat) : Room := { frames := f, cells := 0, slots := 0, locals := n }
theorem av_blind {P : Array Value → Prop} : FrameBlind (fun a U => P a ∧ av_O s0 U) := fun _ _ _ _ h => h
end AVC
end
section
/-! THE LITERALS: length() and charAt(int) of a String that the class file holds -/
def av_Str (s0 : State) (kr ad : Nat → Nat) : Prop :=
  (∀ k : Nat, k < 20 → va_O "java/lang/String" (kr k) (fun q => s0.heap.size ≤ q) s0 s0.heap ∧ va_OF "java/lang/String" "coder" "B" (.int 0) (kr k) (fun q => s0.heap.size ≤ q) s0 s0.heap ∧ va_OF "java/lang/String" "value" "[B" (.ref (ad k)) (kr k) (fun q => s0.heap.size ≤ q) s0 s0.heap ∧ va_T .byte (ad k) (av_lit k).length (fun j => .int (Int32.ofInt ((av_lit k).getD j 0))) (fun q => s0.heap.size ≤ q) s0 s0.heap) ∧
  va_Z "java/lang/String" "COMPACT_STRINGS" "Z" (.int 1) (fun q => s0.heap.size ≤ q) s0 s0.heap ∧ va_Zq "jdk/internal/util/Preconditions" "SIOOBE_FORMATTER" "Ljava/util/function/BiFunction;" (fun q => s0.heap.size ≤ q) s0 s0.heap
theorem av_ascii : ∀ k, k < 20 → ((av_lit k).length < 2 ^ 31 ∧ ∀ j, j < (av_lit k).length → Int32.ofInt ((av_lit k).getD j 0) &&& 255 = Int32.ofInt ((av_lit k).getD j 0)) := by decide +kernel
abbrev sm_c_pre : ByteArray := prog_19_method_11_code
abbrev sm_y_pre : MethodName := ⟨"jdk/internal/util/Preconditions", "checkIndex", "(IILjava/util/function/BiFunction;)I"⟩
abbrev sm_w_pre : List Cond := [Cond.code sm_y_pre sm_c_pre 3 (some .int)]
abbrev sm_c_ck : ByteArray := prog_14_method_155_code
abbrev sm_y_ck : MethodName := ⟨"java/lang/String", "checkIndex", "(II)V"⟩
abbrev sm_w_ck : List Cond := [Cond.code sm_y_ck sm_c_ck 2 none]
abbrev sm_c_l1 : ByteArray := prog_15_method_2_code
abbrev sm_y_l1 : MethodName := ⟨"java/lang/StringLatin1", "charAt", "([BI)C"⟩
abbrev sm_w_l1 : List Cond := [Cond.code sm_y_l1 sm_c_l1 2 (some .char)]
abbrev sm_c_lat : ByteArray := prog_14_method_154_code
abbrev sm_y_lat : MethodName := ⟨"java/lang/String", "isLatin1", "()Z"⟩
abbrev sm_w_lat : List Cond := [Cond.code sm_y_lat sm_c_lat 1 (some .boolean)]
abbrev sm_c_cod : ByteArray := prog_14_method_152_code
abbrev sm_y_cod : MethodName := ⟨"java/lang/String", "coder", "()B"⟩
abbrev sm_w_cod : List Cond := [Cond.code sm_y_cod sm_c_cod 1 (some .byte)]
abbrev sm_c_len : ByteArray := prog_14_method_54_code
abbrev sm_y_len : MethodName := ⟨"java/lang/String", "length", "()I"⟩
abbrev sm_w_len : List Cond := [Cond.code sm_y_len sm_c_len 1 (some .int)]
abbrev sm_c_chr : ByteArray := prog_14_method_56_code
abbrev sm_y_chr : MethodName := ⟨"java/lang/String", "charAt", "(I)C"⟩
abbrev sm_w_chr : List Cond := [Cond.code sm_y_chr sm_c_chr 2 (some .char)]
theorem sm_d_pre_0 : decode sm_c_pre 0 = .ok (.iload_n 0, 1) := by decide +kernel
theorem sm_d_pre_1 : decode sm_c_pre 1 = .ok (.ifCond .lt 8, 3) := by decide +kernel
theorem sm_d_pre_4 : decode sm_c_pre 4 = .ok (.iload_n 0, 1) := by decide +kernel
theorem sm_d_pre_5 : decode sm_c_pre 5 = .ok (.iload_n 1, 1) := by decide +kernel
theorem sm_d_pre_6 : decode sm_c_pre 6 = .ok (.if_icmp .lt 10, 3) := by decide +kernel
theorem sm_d_pre_9 : decode sm_c_pre 9 = .ok (.aload_n 2, 1) := by decide +kernel
theorem sm_d_pre_10 : decode sm_c_pre 10 = .ok (.iload_n 0, 1) := by decide +kernel
theorem sm_d_pre_11 : decode sm_c_pre 11 = .ok (.iload_n 1, 1) := by decide +kernel
theorem sm_d_pre_12 : decode sm_c_pre 12 = .ok (.invokestatic 95, 3) := by decide +kernel
theorem sm_d_pre_15 : decode sm_c_pre 15 = .ok (.athrow, 1) := by decide +kernel
theorem sm_d_pre_16 : decode sm_c_pre 16 = .ok (.iload_n 0, 1) := by decide +kernel
theorem sm_d_pre_17 : decode sm_c_pre 17 = .ok (.ireturn, 1) := by decide +kernel
theorem sm_d_ck_0 : decode sm_c_ck 0 = .ok (.iload_n 0, 1) := by decide +kernel
theorem sm_d_ck_1 : decode sm_c_ck 1 = .ok (.iload_n 1, 1) := by decide +kernel
theorem sm_d_ck_2 : decode sm_c_ck 2 = .ok (.getstatic 1053, 3) := by decide +kernel
theorem sm_d_ck_5 : decode sm_c_ck 5 = .ok (.invokestatic 1059, 3) := by decide +kernel
theorem sm_d_ck_8 : decode sm_c_ck 8 = .ok (.pop, 1) := by decide +kernel
theorem sm_d_ck_9 : decode sm_c_ck 9 = .ok (.return_, 1) := by decide +kernel
theorem sm_d_l1_0 : decode sm_c_l1 0 = .ok (.iload_n 1, 1) := by decide +kernel
theorem sm_d_l1_1 : decode sm_c_l1 1 = .ok (.aload_n 0, 1) := by decide +kernel
theorem sm_d_l1_2 : decode sm_c_l1 2 = .ok (.arraylength, 1) := by decide +kernel
theorem sm_d_l1_3 : decode sm_c_l1 3 = .ok (.invokestatic 9, 3) := by decide +kernel
theorem sm_d_l1_6 : decode sm_c_l1 6 = .ok (.aload_n 0, 1) := by decide +kernel
theorem sm_d_l1_7 : decode sm_c_l1 7 = .ok (.iload_n 1, 1) := by decide +kernel
theorem sm_d_l1_8 : decode sm_c_l1 8 = .ok (.baload, 1) := by decide +kernel
theorem sm_d_l1_9 : decode sm_c_l1 9 = .ok (.sipush 255, 3) := by decide +kernel
theorem sm_d_l1_12 : decode sm_c_l1 12 = .ok (.iand, 1) := by decide +kernel
theorem sm_d_l1_13 : decode sm_c_l1 13 = .ok (.i2c, 1) := by decide +kernel
theorem sm_d_l1_14 : decode sm_c_l1 14 = .ok (.ireturn, 1) := by decide +kernel
theorem sm_d_lat_0 : decode sm_c_lat 0 = .ok (.getstatic 38, 3) := by decide +kernel
theorem sm_d_lat_3 : decode sm_c_lat 3 = .ok (.ifCond .eq 14, 3) := by decide +kernel
theorem sm_d_lat_6 : decode sm_c_lat 6 = .ok (.aload_n 0, 1) := by decide +kernel
theorem sm_d_lat_7 : decode sm_c_lat 7 = .ok (.getfield 15, 3) := by decide +kernel
theorem sm_d_lat_10 : decode sm_c_lat 10 = .ok (.ifCond .ne 7, 3) := by decide +kernel
theorem sm_d_lat_13 : decode sm_c_lat 13 = .ok (.iconst 1, 1) := by decide +kernel
theorem sm_d_lat_14 : decode sm_c_lat 14 = .ok (.goto 4, 3) := by decide +kernel
theorem sm_d_lat_17 : decode sm_c_lat 17 = .ok (.iconst 0, 1) := by decide +kernel
theorem sm_d_lat_18 : decode sm_c_lat 18 = .ok (.ireturn, 1) := by decide +kernel
theorem sm_d_cod_0 : decode sm_c_cod 0 = .ok (.getstatic 38, 3) := by decide +kernel
theorem sm_d_cod_3 : decode sm_c_cod 3 = .ok (.ifCond .eq 10, 3) := by decide +kernel
theorem sm_d_cod_6 : decode sm_c_cod 6 = .ok (.aload_n 0, 1) := by decide +kernel
theorem sm_d_cod_7 : decode sm_c_cod 7 = .ok (.getfield 15, 3) := by decide +kernel
theorem sm_d_cod_10 : decode sm_c_cod 10 = .ok (.goto 4, 3) := by decide +kernel
theorem sm_d_cod_13 : decode sm_c_cod 13 = .ok (.iconst 1, 1) := by decide +kernel
theorem sm_d_cod_14 : decode sm_c_cod 14 = .ok (.ireturn, 1) := by decide +kernel
theorem sm_d_len_0 : decode sm_c_len 0 = .ok (.aload_n 0, 1) := by decide +kernel
theorem sm_d_len_1 : decode sm_c_len 1 = .ok (.getfield 9, 3) := by decide +kernel
theorem sm_d_len_4 : decode sm_c_len 4 = .ok (.arraylength, 1) := by decide +kernel
theorem sm_d_len_5 : decode sm_c_len 5 = .ok (.aload_n 0, 1) := by decide +kernel
theorem sm_d_len_6 : decode sm_c_len 6 = .ok (.invokevirtual 335, 3) := by decide +kernel
theorem sm_d_len_9 : decode sm_c_len 9 = .ok (.ishr, 1) := by decide +kernel
theorem sm_d_len_10 : decode sm_c_len 10 = .ok (.ireturn, 1) := by decide +kernel
theorem sm_d_chr_0 : decode sm_c_chr 0 = .ok (.aload_n 0, 1) := by decide +kernel
theorem sm_d_chr_1 : decode sm_c_chr 1 = .ok (.invokevirtual 492, 3) := by decide +kernel
theorem sm_d_chr_4 : decode sm_c_chr 4 = .ok (.ifCond .eq 12, 3) := by decide +kernel
theorem sm_d_chr_7 : decode sm_c_chr 7 = .ok (.aload_n 0, 1) := by decide +kernel
theorem sm_d_chr_8 : decode sm_c_chr 8 = .ok (.getfield 9, 3) := by decide +kernel
theorem sm_d_chr_11 : decode sm_c_chr 11 = .ok (.iload_n 1, 1) := by decide +kernel
theorem sm_d_chr_12 : decode sm_c_chr 12 = .ok (.invokestatic 495, 3) := by decide +kernel
theorem sm_d_chr_15 : decode sm_c_chr 15 = .ok (.ireturn, 1) := by decide +kernel
theorem sm_d_chr_16 : decode sm_c_chr 16 = .ok (.aload_n 0, 1) := by decide +kernel
theorem sm_d_chr_17 : decode sm_c_chr 17 = .ok (.getfield 9, 3) := by decide +kernel
theorem sm_d_chr_20 : decode sm_c_chr 20 = .ok (.iload_n 1, 1) := by decide +kernel
theorem sm_d_chr_21 : decode sm_c_chr 21 = .ok (.invokestatic 498, 3) := by decide +kernel
theorem sm_d_chr_24 : decode sm_c_chr 24 = .ok (.ireturn, 1) := by decide +kernel
set_option maxRecDepth 100000 in
set_option maxHeartbeats 4000000 in
theorem sm_pre (l : Launch) {a0 : Array Value} {s0 : State} {kr ad : Nat → Nat} (hZ : ∀ w ∈ lw_tbl, w.before a0 s0 = true) (hS : av_Str s0 kr ad) {i n : Int32} {r : Option Nat} (hin : vp_in i n.toNatClampNeg) (hnn : ¬ n < 0) : Met l sm_y_pre sm_w_pre (av_rm 0 0) (fun a U => a = ([.int i, .int n, va_rf r] : List Value).toArray ∧ av_O s0 U) (fun _ st o t => o = .returned (some (.int i)) ∧ t.heap = st.heap) 0 0 (fun _ => False) := by
  refine Met.ofW (cc := sm_c_pre) (maxL := 3) (ret := (some .int)) (by decide) rfl ?_
  intro p e s m args below meth c s₁ B hml hv
  obtain ⟨rfl, hO⟩ := hv
  have hx := B.exec
  have hb := B.bytes
  have hr := B.returns
  have hown : s.vm.findClass "jdk/internal/util/Preconditions" = some m.cls := findClass_of_methodNamed B.named
  have hlocks := B.notSynchronized
  have hW := hO.1
  have hkp : ∀ a : Nat, a < s0.heap.size → ¬ (fun q => s0.heap.size ≤ q) a → s.heap[a]? = s0.heap[a]? := fun a ha _ => hO.2 a ha
  have hl := lv_entry ([.int i, .int n, va_rf r]) (n := 3) (by cases r <;> exact Nat.le_of_ble_eq_true rfl)
  rw [lg_entry_eq]
  generalize (lg_sl ([.int i, .int n, va_rf r]) ++ List.replicate (3 - (lg_sl ([.int i, .int n, va_rf r])).length) Slot.unset).toArray = ls at hl ⊢
  have h1 : ls[0]? = some (.val (.int i)) := hl.2.2 (0, .int i) (by simp [lv_args, Value.category])
  have h2 : ls[1]? = some (.val (.int n)) := hl.2.2 (1, .int n) (by simp [lv_args, Value.category])
  refine lv_iload_n hx hb sm_d_pre_0 rfl h1 ?_
  refine lv_if_lt (tgt := 9) hx hb sm_d_pre_1 (by decide) (fun q => absurd (Or.inl q) hin) (fun _ => ?_)
  refine lv_iload_n hx hb sm_d_pre_4 rfl h1 ?_
  refine lv_iload_n hx hb sm_d_pre_5 rfl h2 ?_
  refine lv_icmp_lt (tgt := 16) hx hb sm_d_pre_6 (by decide) (fun _ => ?_) (fun q => ?_)
  · refine lv_iload_n hx hb sm_d_pre_16 rfl h1 ?_
    exact W.iret hx hb hr (fun t ht _ => ⟨rfl, ht⟩) (fun q h => by cases h) sm_d_pre_17
  · exfalso
    apply q
    have e1 := vp_in_iff.mp hin
    rw [Int32.lt_iff_toInt_lt]
    have e2 : ((n.toNatClampNeg : Nat) : Int) = n.toInt := by
      have := Int32.not_lt.mp hnn
      rw [Int32.le_iff_toInt_le] at this
      show ((n.toInt.toNat : Nat) : Int) = n.toInt
      have h0 : (0 : Int32).toInt = 0 := rfl
      omega
    omega
set_option maxRecDepth 100000 in
set_option maxHeartbeats 4000000 in
theorem sm_ck (l : Launch) {a0 : Array Value} {s0 : State} {kr ad : Nat → Nat} (hZ : ∀ w ∈ lw_tbl, w.before a0 s0 = true) (hS : av_Str s0 kr ad) {i n : Int32} (hin : vp_in i n.toNatClampNeg) (hnn : ¬ n < 0) : Met l sm_y_ck sm_w_ck (av_rm 1 30) (fun a U => a = ([.int i, .int n] : List Value).toArray ∧ av_O s0 U) (fun _ st o t => o = .returned none ∧ t.heap = st.heap) 0 0 (fun _ => False) := by
  refine Met.ofW (cc := sm_c_ck) (maxL := 2) (ret := none) (by decide) rfl ?_
  intro p e s m args below meth c s₁ B hml hv
  obtain ⟨rfl, hO⟩ := hv
  have hx := B.exec
  have hb := B.bytes
  have hr := B.returns
  have hown : s.vm.findClass "java/lang/String" = some m.cls := findClass_of_methodNamed B.named
  have hlocks := B.notSynchronized
  have hW := hO.1
  have hkp : ∀ a : Nat, a < s0.heap.size → ¬ (fun q => s0.heap.size ≤ q) a → s.heap[a]? = s0.heap[a]? := fun a ha _ => hO.2 a ha
  have hl := lv_entry ([.int i, .int n]) (n := 2) (Nat.le_of_ble_eq_true rfl)
  rw [lg_entry_eq]
  generalize (lg_sl ([.int i, .int n]) ++ List.replicate (2 - (lg_sl ([.int i, .int n])).length) Slot.unset).toArray = ls at hl ⊢
  have h1 : ls[0]? = some (.val (.int i)) := hl.2.2 (0, .int i) (by simp [lv_args, Value.category])
  have h2 : ls[1]? = some (.val (.int n)) := hl.2.2 (1, .int n) (by simp [lv_args, Value.category])
  refine lv_iload_n hx hb sm_d_ck_0 rfl h1 ?_
  refine lv_iload_n hx hb sm_d_ck_1 rfl h2 ?_
  have go : ∀ r : Option Nat, va_Z "jdk/internal/util/Preconditions" "SIOOBE_FORMATTER" "Ljava/util/function/BiFunction;" (va_rf r) (fun q => s0.heap.size ≤ q) s s.heap → W p l e (headSpec sm_w_ck (av_rm 1 30)).room s m ([.int i, .int n] : List Value).toArray below meth c s.heap [] 0 0 (MQ below (fun _ st o t => o = .returned none ∧ t.heap = st.heap) ([.int i, .int n] : List Value).toArray s 0 0 (fun _ => False)) (F0 m 2 ls [.int n, .int i]) := by
    intro r hz
    refine va_gets hx hb hz va_S.rf hown (av_go hZ hW (av_mem (i := 398) rfl) rfl) (fun x hx => hx) sm_d_ck_2 ?_
    refine av_callN (some (.int i)) (va_runS (As := [.int i, .int n, va_rf r]) (rest := []) (Ts := []) ⟨hx, hb, hml, hown, fun w hw => by cases hw⟩ (sm_pre l hZ hS hin hnn) ⟨av_CB (n := 3) hZ hW rfl rfl (by decide) (by decide) (av_mem (i := 402) rfl) (av_mem (i := 15) rfl) (av_mem (i := 400) rfl) (by decide) (by decide +kernel), av_go hZ hW (av_mem (i := 401) rfl) rfl⟩ ⟨av_blind, fun U hU hWU => ⟨rfl, State.WarmedH.trans hW hWU, fun q hq => by rw [hU]; exact hO.2 q hq⟩⟩ rfl rfl hl.1 rfl (lv_room (by simp)) sm_d_ck_5 ⟨Nat.le_refl _, Nat.le_refl _⟩) (fun st o t hq => hq) (fun q h => h) ?_
    refine lv_pop hx hb sm_d_ck_8 rfl ?_
    exact W.vret hx hb hr (fun t ht _ => ⟨rfl, ht⟩) (fun q h => by cases h) sm_d_ck_9
  rcases (hS.2.2.moved hW.alike).kept hkp with hz | ⟨t, hz⟩
  · exact go none hz
  · exact go (some t) hz
set_option maxRecDepth 100000 in
set_option maxHeartbeats 4000000 in
theorem sm_l1 (l : Launch) {a0 : Array Value} {s0 : State} {kr ad : Nat → Nat} (hZ : ∀ w ∈ lw_tbl, w.before a0 s0 = true) (hS : av_Str s0 kr ad) {i : Int32} {k : Nat} (hk : k < 20) (hin : vp_in i (av_lit k).length) : Met l sm_y_l1 sm_w_l1 (av_rm 2 60) (fun a U => a = ([.ref (ad k), .int i] : List Value).toArray ∧ av_O s0 U) (fun _ st o t => o = .returned (some (.int (Int32.ofInt ((av_lit k).getD i.toNatClampNeg 0)))) ∧ t.heap = st.heap) 0 0 (fun _ => False) := by
  refine Met.ofW (cc := sm_c_l1) (maxL := 2) (ret := (some .char)) (by decide) rfl ?_
  intro p e s m args below meth c s₁ B hml hv
  obtain ⟨rfl, hO⟩ := hv
  have hx := B.exec
  have hb := B.bytes
  have hr := B.returns
  have hown : s.vm.findClass "java/lang/StringLatin1" = some m.cls := findClass_of_methodNamed B.named
  have hlocks := B.notSynchronized
  have hW := hO.1
  have hkp : ∀ a : Nat, a < s0.heap.size → ¬ (fun q => s0.heap.size ≤ q) a → s.heap[a]? = s0.heap[a]? := fun a ha _ => hO.2 a ha
  have hl := lv_entry ([.ref (ad k), .int i]) (n := 2) (Nat.le_of_ble_eq_true rfl)
  rw [lg_entry_eq]
  generalize (lg_sl ([.ref (ad k), .int i]) ++ List.replicate (2 - (lg_sl ([.ref (ad k), .int i])).length) Slot.unset).toArray = ls at hl ⊢
  have h1 : ls[0]? = some (.val (.ref (ad k))) := hl.2.2 (0, .ref (ad k)) (by simp [lv_args, Value.category])
  have h2 : ls[1]? = some (.val (.int i)) := hl.2.2 (1, .int i) (by simp [lv_args, Value.category])
  have hT := ((hS.1 k hk).2.2.2.moved hW.alike).kept hkp
  obtain ⟨cell, g1, g2, g3, g4, g5, g6, g7⟩ := id hT
  obtain ⟨hlen, has⟩ := av_ascii k hk
  have hlt : i.toNatClampNeg < (av_lit k).length := Nat.not_le.mp fun q => hin (Or.inr q)
  have hcl : (nI (av_lit k).length).toNatClampNeg = (av_lit k).length := nI_clamp hlen
  refine lv_iload_n hx hb sm_d_l1_0 rfl h2 ?_
  refine lv_aload_n hx hb sm_d_l1_1 rfl h1 ?_
  refine W.alen hx hb g1 g2 g5 rfl rfl sm_d_l1_2 ?_
  refine av_callN none (va_runS (As := [.int i, .int (nI (av_lit k).length)]) (rest := []) (Ts := []) ⟨hx, hb, hml, hown, fun w hw => by cases hw⟩ (sm_ck l hZ hS (by rw [hcl]; exact hin) (nI_pos hlen)) ⟨av_CB (n := 2) hZ hW rfl rfl (by decide) (by decide) (av_mem (i := 397) rfl) (av_mem (i := 13) rfl) (av_mem (i := 395) rfl) (by decide) (by decide +kernel), av_go hZ hW (av_mem (i := 396) rfl) rfl⟩ ⟨av_blind, fun U hU hWU => ⟨rfl, State.WarmedH.trans hW hWU, fun q hq => by rw [hU]; exact hO.2 q hq⟩⟩ rfl rfl hl.1 rfl (lv_room (by simp)) sm_d_l1_3 ⟨Nat.le_refl _, Nat.le_refl _⟩) (fun st o t hq => hq) (fun q h => h) ?_
  refine lv_aload_n hx hb sm_d_l1_6 rfl h1 ?_
  refine lv_iload_n hx hb sm_d_l1_7 rfl h2 ?_
  refine va_tb hx hb hT va_S.rf hin rfl sm_d_l1_8 ?_
  refine lv_sipush (v := 255) hx hb sm_d_l1_9 (by decide) ?_
  refine lv_iand hx hb sm_d_l1_12 ?_
  refine lv_i2c hx hb sm_d_l1_13 (sc_c2 _) ?_
  have e1 := has _ hlt
  rw [e1]
  exact W.zret hx hb hr (by rw [← e1]; exact sc_nar _) (fun t ht _ => ⟨rfl, ht⟩) (fun q h => by cases h) sm_d_l1_14
set_option maxRecDepth 100000 in
set_option maxHeartbeats 4000000 in
theorem sm_lat (l : Launch) {a0 : Array Value} {s0 : State} {kr ad : Nat → Nat} (hZ : ∀ w ∈ lw_tbl, w.before a0 s0 = true) (hS : av_Str s0 kr ad) {k : Nat} (hk : k < 20) : Met l sm_y_lat sm_w_lat (av_rm 0 0) (fun a U => a = ([.ref (kr k)] : List Value).toArray ∧ av_O s0 U) (fun _ st o t => o = .returned (some (.int 1)) ∧ t.heap = st.heap) 0 0 (fun _ => False) := by
  refine Met.ofW (cc := sm_c_lat) (maxL := 1) (ret := (some .boolean)) (by decide) rfl ?_
  intro p e s m args below meth c s₁ B hml hv
  obtain ⟨rfl, hO⟩ := hv
  have hx := B.exec
  have hb := B.bytes
  have hr := B.returns
  have hown : s.vm.findClass "java/lang/String" = some m.cls := findClass_of_methodNamed B.named
  have hlocks := B.notSynchronized
  have hW := hO.1
  have hkp : ∀ a : Nat, a < s0.heap.size → ¬ (fun q => s0.heap.size ≤ q) a → s.heap[a]? = s0.heap[a]? := fun a ha _ => hO.2 a ha
  have hl := lv_entry ([.ref (kr k)]) (n := 1) (Nat.le_of_ble_eq_true rfl)
  rw [lg_entry_eq]
  generalize (lg_sl ([.ref (kr k)]) ++ List.replicate (1 - (lg_sl ([.ref (kr k)])).length) Slot.unset).toArray = ls at hl ⊢
  have h1 : ls[0]? = some (.val (.ref (kr k))) := hl.2.2 (0, .ref (kr k)) (by simp [lv_args, Value.category])
  refine va_gets hx hb ((hS.2.1.moved hW.alike).kept hkp) va_S.rf hown (av_go hZ hW (av_mem (i := 382) rfl) rfl) (fun x hx => hx) sm_d_lat_0 ?_
  refine lv_if_eq (tgt := 17) hx hb sm_d_lat_3 (by decide) (fun q => by cases q) (fun _ => ?_)
  refine lv_aload_n hx hb sm_d_lat_6 rfl h1 ?_
  refine vk_getf hx hb (((hS.1 k hk).2.1.moved hW.alike).kept hkp) va_S.rf hown (av_go hZ hW (av_mem (i := 1509) rfl) rfl) (fun x hx => hx) sm_d_lat_7 ?_
  refine lv_if_ne (tgt := 17) hx hb sm_d_lat_10 (by decide) (fun q => absurd rfl q) (fun _ => ?_)
  refine lv_iconst (v := 1) hx hb sm_d_lat_13 (by decide) ?_
  refine lv_goto (tgt := 18) hx hb sm_d_lat_14 (by decide) ?_
  exact W.zret hx hb hr (by decide) (fun t ht _ => ⟨rfl, ht⟩) (fun q h => by cases h) sm_d_lat_18
set_option maxRecDepth 100000 in
set_option maxHeartbeats 4000000 in
theorem sm_cod (l : Launch) {a0 : Array Value} {s0 : State} {kr ad : Nat → Nat} (hZ : ∀ w ∈ lw_tbl, w.before a0 s0 = true) (hS : av_Str s0 kr ad) {k : Nat} (hk : k < 20) : Met l sm_y_cod sm_w_cod (av_rm 0 0) (fun a U => a = ([.ref (kr k)] : List Value).toArray ∧ av_O s0 U) (fun _ st o t => o = .returned (some (.int 0)) ∧ t.heap = st.heap) 0 0 (fun _ => False) := by
  refine Met.ofW (cc := sm_c_cod) (maxL := 1) (ret := (some .byte)) (by decide) rfl ?_
  intro p e s m args below meth c s₁ B hml hv
  obtain ⟨rfl, hO⟩ := hv
  have hx := B.exec
  have hb := B.bytes
  have hr := B.returns
  have hown : s.vm.findClass "java/lang/String" = some m.cls := findClass_of_methodNamed B.named
  have hlocks := B.notSynchronized
  have hW := hO.1
  have hkp : ∀ a : Nat, a < s0.heap.size → ¬ (fun q => s0.heap.size ≤ q) a → s.heap[a]? = s0.heap[a]? := fun a ha _ => hO.2 a ha
  have hl := lv_entry ([.ref (kr k)]) (n := 1) (Nat.le_of_ble_eq_true rfl)
  rw [lg_entry_eq]
  generalize (lg_sl ([.ref (kr k)]) ++ List.replicate (1 - (lg_sl ([.ref (kr k)])).length) Slot.unset).toArray = ls at hl ⊢
  have h1 : ls[0]? = some (.val (.ref (kr k))) := hl.2.2 (0, .ref (kr k)) (by simp [lv_args, Value.category])
  refine va_gets hx hb ((hS.2.1.moved hW.alike).kept hkp) va_S.rf hown (av_go hZ hW (av_mem (i := 382) rfl) rfl) (fun x hx => hx) sm_d_cod_0 ?_
  refine lv_if_eq (tgt := 13) hx hb sm_d_cod_3 (by decide) (fun q => by cases q) (fun _ => ?_)
  refine lv_aload_n hx hb sm_d_cod_6 rfl h1 ?_
  refine vk_getf hx hb (((hS.1 k hk).2.1.moved hW.alike).kept hkp) va_S.rf hown (av_go hZ hW (av_mem (i := 1509) rfl) rfl) (fun x hx => hx) sm_d_cod_7 ?_
  refine lv_goto (tgt := 14) hx hb sm_d_cod_10 (by decide) ?_
  exact W.zret hx hb hr (by decide) (fun t ht _ => ⟨rfl, ht⟩) (fun q h => by cases h) sm_d_cod_14
set_option maxRecDepth 100000 in
set_option maxHeartbeats 4000000 in
theorem sm_len (l : Launch) {a0 : Array Value} {s0 : State} {kr ad : Nat → Nat} (hZ : ∀ w ∈ lw_tbl, w.before a0 s0 = true) (hS : av_Str s0 kr ad) {k : Nat} (hk : k < 20) : Met l sm_y_len sm_w_len (av_rm 1 30) (fun a U => a = ([.ref (kr k)] : List Value).toArray ∧ av_O s0 U) (fun _ st o t => o = .returned (some (.int (nI (av_lit k).length))) ∧ t.heap = st.heap) 0 0 (fun _ => False) := by
  refine Met.ofW (cc := sm_c_len) (maxL := 1) (ret := (some .int)) (by decide) rfl ?_
  intro p e s m args below meth c s₁ B hml hv
  obtain ⟨rfl, hO⟩ := hv
  have hx := B.exec
  have hb := B.bytes
  have hr := B.returns
  have hown : s.vm.findClass "java/lang/String" = some m.cls := findClass_of_methodNamed B.named
  have hlocks := B.notSynchronized
  have hW := hO.1
  have hkp : ∀ a : Nat, a < s0.heap.size → ¬ (fun q => s0.heap.size ≤ q) a → s.heap[a]? = s0.heap[a]? := fun a ha _ => hO.2 a ha
  have hl := lv_entry ([.ref (kr k)]) (n := 1) (Nat.le_of_ble_eq_true rfl)
  rw [lg_entry_eq]
  generalize (lg_sl ([.ref (kr k)]) ++ List.replicate (1 - (lg_sl ([.ref (kr k)])).length) Slot.unset).toArray = ls at hl ⊢
  have h1 : ls[0]? = some (.val (.ref (kr k))) := hl.2.2 (0, .ref (kr k)) (by simp [lv_args, Value.category])
  have hrc : ∃ cell : Cell, s.heap[kr k]? = some cell ∧ cell.vm.isStatics = false ∧ s.vm.findClass "java/lang/String" = some cell.cls := by
    obtain ⟨cell, r1, r2, r3, -⟩ := ((hS.1 k hk).1.moved hW.alike).kept hkp
    exact ⟨cell, r1, r2, r3⟩
  obtain ⟨cellT, g1, g2, g3, g4, g5, g6, g7⟩ := ((hS.1 k hk).2.2.2.moved hW.alike).kept hkp
  refine lv_aload_n hx hb sm_d_len_0 rfl h1 ?_
  refine vk_getf hx hb (((hS.1 k hk).2.2.1.moved hW.alike).kept hkp) va_S.rf hown (av_go hZ hW (av_mem (i := 1508) rfl) rfl) (fun x hx => hx) sm_d_len_1 ?_
  refine W.alen hx hb g1 g2 g5 rfl rfl sm_d_len_4 ?_
  refine lv_aload_n hx hb sm_d_len_5 rfl h1 ?_
  refine av_callN (some (.int 0)) (va_runV (C := "java/lang/String") (As := []) (rest := [.int (Int32.ofNat (av_lit k).length)]) (Ts := []) ⟨hx, hb, hml, hown, fun w hw => by cases hw⟩ (sm_cod l hZ hS hk) ⟨av_CB (n := 0) hZ hW rfl rfl (by decide) (by decide) (av_mem (i := 381) rfl) (av_mem (i := 13) rfl) (av_mem (i := 378) rfl) (by decide) (by decide +kernel), av_go hZ hW (av_mem (i := 379) rfl) rfl, av_go hZ hW (av_mem (i := 380) rfl) rfl⟩ ⟨av_blind, hrc, fun U hU hWU => ⟨rfl, State.WarmedH.trans hW hWU, fun q hq => by rw [hU]; exact hO.2 q hq⟩⟩ rfl rfl hl.1 rfl (lv_room (by simp [Value.category])) sm_d_len_6 ⟨Nat.le_refl _, Nat.le_refl _⟩) (fun st o t hq => hq) (fun q h => h) ?_
  refine lv_ishr hx hb sm_d_len_9 ?_
  rw [sb_shr0]
  exact W.iret hx hb hr (fun t ht _ => ⟨rfl, ht⟩) (fun q h => by cases h) sm_d_len_10
set_option maxRecDepth 100000 in
set_option maxHeartbeats 4000000 in
theorem sm_chr (l : Launch) {a0 : Array Value} {s0 : State} {kr ad : Nat → Nat} (hZ : ∀ w ∈ lw_tbl, w.before a0 s0 = true) (hS : av_Str s0 kr ad) {i : Int32} {k : Nat} (hk : k < 20) (hin : vp_in i (av_lit k).length) : Met l sm_y_chr sm_w_chr (av_rm 3 90) (fun a U => a = ([.ref (kr k), .int i] : List Value).toArray ∧ av_O s0 U) (fun _ st o t => o = .returned (some (.int (Int32.ofInt ((av_lit k).getD i.toNatClampNeg 0)))) ∧ t.heap = st.heap) 0 0 (fun _ => False) := by
  refine Met.ofW (cc := sm_c_chr) (maxL := 2) (ret := (some .char)) (by decide) rfl ?_
  intro p e s m args below meth c s₁ B hml hv
  obtain ⟨rfl, hO⟩ := hv
  have hx := B.exec
  have hb := B.bytes
  have hr := B.returns
  have hown : s.vm.findClass "java/lang/String" = some m.cls := findClass_of_methodNamed B.named
  have hlocks := B.notSynchronized
  have hW := hO.1
  have hkp : ∀ a : Nat, a < s0.heap.size → ¬ (fun q => s0.heap.size ≤ q) a → s.heap[a]? = s0.heap[a]? := fun a ha _ => hO.2 a ha
  have hl := lv_entry ([.ref (kr k), .int i]) (n := 2) (Nat.le_of_ble_eq_true rfl)
  rw [lg_entry_eq]
  generalize (lg_sl ([.ref (kr k), .int i]) ++ List.replicate (2 - (lg_sl ([.ref (kr k), .int i])).length) Slot.unset).toArray = ls at hl ⊢
  have h1 : ls[0]? = some (.val (.ref (kr k))) := hl.2.2 (0, .ref (kr k)) (by simp [lv_args, Value.category])
  have h2 : ls[1]? = some (.val (.int i)) := hl.2.2 (1, .int i) (by simp [lv_args, Value.category])
  have hrc : ∃ cell : Cell, s.heap[kr k]? = some cell ∧ cell.vm.isStatics = false ∧ s.vm.findClass "java/lang/String" = some cell.cls := by
    obtain ⟨cell, r1, r2, r3, -⟩ := ((hS.1 k hk).1.moved hW.alike).kept hkp
    exact ⟨cell, r1, r2, r3⟩
  refine lv_aload_n hx hb sm_d_chr_0 rfl h1 ?_
  refine av_callN (some (.int 1)) (va_runV (C := "java/lang/String") (As := []) (rest := []) (Ts := []) ⟨hx, hb, hml, hown, fun w hw => by cases hw⟩ (sm_lat l hZ hS hk) ⟨av_CB (n := 0) hZ hW rfl rfl (by decide) (by decide) (av_mem (i := 391) rfl) (av_mem (i := 13) rfl) (av_mem (i := 388) rfl) (by decide) (by decide +kernel), av_go hZ hW (av_mem (i := 389) rfl) rfl, av_go hZ hW (av_mem (i := 390) rfl) rfl⟩ ⟨av_blind, hrc, fun U hU hWU => ⟨rfl, State.WarmedH.trans hW hWU, fun q hq => by rw [hU]; exact hO.2 q hq⟩⟩ rfl rfl hl.1 rfl (lv_room (by simp [Value.category])) sm_d_chr_1 ⟨Nat.le_refl _, Nat.le_refl _⟩) (fun st o t hq => hq) (fun q h => h) ?_
  refine lv_if_eq (tgt := 16) hx hb sm_d_chr_4 rfl (fun q => by cases q) (fun _ => ?_)
  refine lv_aload_n hx hb sm_d_chr_7 rfl h1 ?_
  refine vk_getf hx hb (((hS.1 k hk).2.2.1.moved hW.alike).kept hkp) va_S.rf hown (av_go hZ hW (av_mem (i := 1508) rfl) rfl) (fun x hx => hx) sm_d_chr_8 ?_
  refine lv_iload_n hx hb sm_d_chr_11 rfl h2 ?_
  refine av_callN (some (.int (Int32.ofInt ((av_lit k).getD i.toNatClampNeg 0)))) (va_runS (As := [.ref (ad k), .int i]) (rest := []) (Ts := []) ⟨hx, hb, hml, hown, fun w hw => by cases hw⟩ (sm_l1 l hZ hS hk hin) ⟨av_CB (n := 2) hZ hW rfl rfl (by decide) (by decide) (av_mem (i := 394) rfl) (av_mem (i := 14) rfl) (av_mem (i := 392) rfl) (by decide) (by decide +kernel), av_go hZ hW (av_mem (i := 393) rfl) rfl⟩ ⟨av_blind, fun U hU hWU => ⟨rfl, State.WarmedH.trans hW hWU, fun q hq => by rw [hU]; exact hO.2 q hq⟩⟩ rfl rfl hl.1 rfl (lv_room (by simp)) sm_d_chr_12 ⟨Nat.le_refl _, Nat.le_refl _⟩) (fun st o t hq => hq) (fun q h => h) ?_
  have hlt : i.toNatClampNeg < (av_lit k).length := Nat.not_le.mp fun q => hin (Or.inr q)
  have e1 := (av_ascii k hk).2 _ hlt
  exact W.zret hx hb hr (by rw [← e1]; exact sc_nar _) (fun t ht _ => ⟨rfl, ht⟩) (fun q h => by cases h) sm_d_chr_15
end
section
/-! ONE STEP: length() and charAt(int) of a literal -/
section AVL
variable {p : Program} {l : Launch} {e : Env} {R : Room} {s : State} {m : MethodId} {args : Array Value} {below : List Frame} {meth : Method} {c : Code} {Q : State → Prop}
variable {a0 : Array Value} {s0 : State} {D : va_G} {TY : Nat → ClassId} {kr ad : Nat → Nat} {sc : av_Sr} {own nL : Nat} {cc : ByteArray} {ini : Bool} {h0 hf h h' : av_H} {pc pc' : Nat} {lv lv' : av_L} {st st' : List av_V}

theorem av_s_len {idx q : Nat}  {r : List av_V} (C : av_Cx p R s m meth c a0 s0 D TY own nL cc ini h0 hf) (hS : av_Str s0 kr ad) (hd : decode cc pc = .ok (.invokevirtual idx, 3)) (hlk : Cond.methodLink (av_cn own) idx sm_y_len ∈ lw_tbl) (hin0 : Cond.instanceMethod sm_y_len ∈ lw_tbl) (hse : Cond.selects "java/lang/String" sm_y_len sm_y_len ∈ lw_tbl) (hco : Cond.code sm_y_len sm_c_len 1 (some .int) ∈ lw_tbl) (hini : Cond.initialized "java/lang/String" ∈ lw_tbl) (hr : (r.map av_cat).sum ≤ 8) (hq : q < 20)  (hfr : 2 ≤ R.frames) (hlo : 60 ≤ R.locals) (hle : h.1 ≤ hf.1 ∧ h.2.1 ≤ hf.2.1) (k : av_W p l e R s m args below meth c Q s0 D TY kr sc nL h0 (pc + 3) lv (.inl ((av_lit q).length : Int) :: r) h) : av_W p l e R s m args below meth c Q s0 D TY kr sc nL h0 pc lv (.inr (.inr (.inr q)) :: r) h := by
  intro H locs ls hR hl hL h1 h2
  have hZ := C.2.2.2.2.2.1.1
  have hW := C.2.2.2.2.1
  have hrm := C.2.2.2.2.2.2.2
  have hrc : ∃ cell : Cell, H[kr q]? = some cell ∧ cell.vm.isStatics = false ∧ s.vm.findClass "java/lang/String" = some cell.cls := by
    obtain ⟨cell, r1, r2, r3, -⟩ := ((hS.1 q hq).1.moved hW.alike).kept (av_old hR)
    exact ⟨cell, r1, r2, r3⟩
  refine av_callN (some (.int (nI (av_lit q).length))) (va_runV (C := "java/lang/String") (As := []) (rest := r.map (av_ev s0.heap.size kr)) (Ts := []) ⟨C.1, C.2.1, C.2.2.1, C.2.2.2.1, fun w hw => by cases hw⟩ (sm_len l hZ hS hq) ⟨av_CB (n := 0) hZ hW rfl rfl (by show _ + 1 ≤ _; simp only [av_rm]; omega) (by show 8 + _ + _ ≤ _; simp only [av_rm]; omega) hco hini hlk (by decide) (by decide +kernel), av_go hZ hW hin0 rfl, av_go hZ hW hse rfl⟩ ⟨av_blind, hrc, fun U hU hWU => ⟨rfl, State.WarmedH.trans hW hWU, fun x hx => by rw [hU]; exact hR.2.1 x hx⟩⟩ rfl rfl hL.1 rfl (lv_room (by rw [av_cats]; exact hr)) hd ⟨by show _ + 0 ≤ _; omega, by show _ + 0 ≤ _; omega⟩) (fun st o t hq => hq) (fun q h => h) ?_
  have kk := k H locs ls hR hl hL h1 h2
  exact kk
theorem av_s_chr {idx q : Nat} {i : Int} {r : List av_V} (C : av_Cx p R s m meth c a0 s0 D TY own nL cc ini h0 hf) (hS : av_Str s0 kr ad) (hd : decode cc pc = .ok (.invokevirtual idx, 3)) (hlk : Cond.methodLink (av_cn own) idx sm_y_chr ∈ lw_tbl) (hin0 : Cond.instanceMethod sm_y_chr ∈ lw_tbl) (hse : Cond.selects "java/lang/String" sm_y_chr sm_y_chr ∈ lw_tbl) (hco : Cond.code sm_y_chr sm_c_chr 2 (some .char) ∈ lw_tbl) (hini : Cond.initialized "java/lang/String" ∈ lw_tbl) (hr : (r.map av_cat).sum ≤ 8) (hq : q < 20) (hi : av_inB i (av_lit q).length = true) (hfr : 4 ≤ R.frames) (hlo : 120 ≤ R.locals) (hle : h.1 ≤ hf.1 ∧ h.2.1 ≤ hf.2.1) (k : av_W p l e R s m args below meth c Q s0 D TY kr sc nL h0 (pc + 3) lv (.inl ((av_lit q).getD (av_w i).toNat 0) :: r) h) : av_W p l e R s m args below meth c Q s0 D TY kr sc nL h0 pc lv (.inl i :: .inr (.inr (.inr q)) :: r) h := by
  intro H locs ls hR hl hL h1 h2
  have hZ := C.2.2.2.2.2.1.1
  have hW := C.2.2.2.2.1
  have hrm := C.2.2.2.2.2.2.2
  have hrc : ∃ cell : Cell, H[kr q]? = some cell ∧ cell.vm.isStatics = false ∧ s.vm.findClass "java/lang/String" = some cell.cls := by
    obtain ⟨cell, r1, r2, r3, -⟩ := ((hS.1 q hq).1.moved hW.alike).kept (av_old hR)
    exact ⟨cell, r1, r2, r3⟩
  have hin : vp_in (Int32.ofInt i) (av_lit q).length := (av_inP hi).1
  refine av_callN (some (.int (Int32.ofInt ((av_lit q).getD (Int32.ofInt i).toNatClampNeg 0)))) (va_runV (C := "java/lang/String") (As := [.int (Int32.ofInt i)]) (rest := r.map (av_ev s0.heap.size kr)) (Ts := []) ⟨C.1, C.2.1, C.2.2.1, C.2.2.2.1, fun w hw => by cases hw⟩ (sm_chr l hZ hS hq hin) ⟨av_CB (n := 1) hZ hW rfl rfl (by show _ + 1 ≤ _; simp only [av_rm]; omega) (by show 8 + _ + _ ≤ _; simp only [av_rm]; omega) hco hini hlk (by decide) (by decide +kernel), av_go hZ hW hin0 rfl, av_go hZ hW hse rfl⟩ ⟨av_blind, hrc, fun U hU hWU => ⟨rfl, State.WarmedH.trans hW hWU, fun x hx => by rw [hU]; exact hR.2.1 x hx⟩⟩ rfl rfl hL.1 rfl (lv_room (by rw [av_cats]; exact hr)) hd ⟨by show _ + 0 ≤ _; omega, by show _ + 0 ≤ _; omega⟩) (fun st o t hq => hq) (fun q h => h) ?_
  have kk := k H locs ls hR hl hL h1 h2
  rw [av_nat]
  exact kk
end AVL
end
section
/-! EVERY STEP -/
/-- the literals: at which place of which pool each stands -/
def av_strs : List (Nat × Nat × Nat × String) := [(2, 66, 0, "offer ask yes no back deed send"), (2, 72, 1, "a b c"), (2, 123, 2, "price much day port court"), (2, 116, 3, "hold"), (2, 121, 4, "given"), (2, 84, 5, "but"), (2, 125, 6, "post wire mouth deed"), (2, 127, 7, "at"), (2, 143, 8, "to"), (2, 137, 9, "after"), (2, 139, 10, "read"), (2, 141, 11, "lost"), (4, 41, 12, "yes offer back no hold lapse silence but form deed risk"), (4, 69, 13, "post wire mouth all"), (4, 50, 14, "sent come read"), (4, 52, 15, "free binds"), (4, 58, 16, "no small"), (4, 60, 17, "first last none"), (4, 62, 18, "none yes"), (4, 64, 19, "bargain sent come")]
def av_len (x : av_E) : Nat := match x.1 with
  | .tableswitch _ _ _ _ => x.2.1
  | .lookupswitch _ _ => x.2.1
  | .bipush _ => 2
  | .sipush _ => 3
  | .ldc _ => 2
  | .ldc_w _ => 3
  | .ldc2_w _ => 3
  | .iload _ => 2
  | .aload _ => 2
  | .lload _ => 2
  | .istore _ => 2
  | .astore _ => 2
  | .iinc _ _ => 3
  | .goto _ => 3
  | .ifCond _ _ => 3
  | .if_icmp _ _ => 3
  | .ifnull _ => 3
  | .ifnonnull _ => 3
  | .getfield _ => 3
  | .putfield _ => 3
  | .getstatic _ => 3
  | .newarray _ => 2
  | .anewarray _ => 3
  | .multianewarray _ _ => 4
  | .new _ => 3
  | .checkcast _ => 3
  | .invokevirtual _ => 3
  | .invokespecial _ => 3
  | .invokestatic _ => 3
  | _ => 1
def av_lkP (own a idx : Nat) : Prop := match a with
  | 1000 => Cond.methodLink (av_cn own) idx Lib.objectInit ∈ lw_tbl
  | 1001 => Cond.methodLink (av_cn own) idx Lib.Math.max.name ∈ lw_tbl
  | 1002 => Cond.methodLink (av_cn own) idx Lib.Math.min.name ∈ lw_tbl
  | 1003 => Cond.methodLink (av_cn own) idx arraycopyName ∈ lw_tbl
  | 1004 => Cond.methodLink (av_cn own) idx ⟨"[I", "clone", "()Ljava/lang/Object;"⟩ ∈ lw_tbl
  | 1005 => Cond.methodLink (av_cn own) idx sm_y_len ∈ lw_tbl
  | 1006 => Cond.methodLink (av_cn own) idx sm_y_chr ∈ lw_tbl
  | _ => False
/-- an entry of a method's code is what the bytes say, and its links are the tables' -/
def av_ok (own : Nat) (cc : ByteArray) (ini : Bool) (fr lo pc : Nat) (x : av_E) : Prop := decode cc pc = .ok (x.1, av_len x) ∧ (match x.1 with
  | .bipush n => (Int8.ofInt n).toInt32 = Int32.ofInt n
  | .sipush n => (Int16.ofInt n).toInt32 = Int32.ofInt n
  | .ldc idx => (x.2.2.1 = 0 ∧ Cond.constant (av_cn own) idx (Int32.ofInt x.2.2.2.2.2) ∈ lw_tbl) ∨ (¬ x.2.2.1 = 0 ∧ ∃ tx, (own, idx, x.2.2.2.1, tx) ∈ av_strs)
  | .ldc_w idx => Cond.constant (av_cn own) idx (Int32.ofInt x.2.2.2.2.2) ∈ lw_tbl
  | .ldc2_w idx => Cond.constantLong (av_cn own) idx (Int64.ofInt x.2.2.2.2.2) ∈ lw_tbl
  | .goto off => (pc : Int) + off = (x.2.2.1 : Int)
  | .ifCond _ off => (pc : Int) + off = (x.2.2.1 : Int)
  | .if_icmp _ off => (pc : Int) + off = (x.2.2.1 : Int)
  | .ifnull off => (pc : Int) + off = (x.2.2.1 : Int)
  | .ifnonnull off => (pc : Int) + off = (x.2.2.1 : Int)
  | .tableswitch d low high offs => 0 ≤ (pc : Int) + d ∧ (∀ q ∈ offs.toList, 0 ≤ (pc : Int) + q) ∧ high - low < offs.toList.length
  | .lookupswitch d ps => (ps.toList.zip (ps.toList.drop 1)).all (fun (a, next) => a.1 < next.1) = true ∧ 0 ≤ (pc : Int) + d ∧ ∀ q ∈ ps.toList, 0 ≤ (pc : Int) + q.2
  | .getfield idx => x.2.2.1 < 9 ∧ x.2.2.2.1 < av_N x.2.2.1 ∧ x.2.2.2.2.1 = av_tg (av_ty x.2.2.1 x.2.2.2.1) ∧ av_FL own idx x.2.2.1 x.2.2.2.1
  | .putfield idx => x.2.2.1 < 9 ∧ x.2.2.2.1 < av_N x.2.2.1 ∧ x.2.2.2.2.1 = av_tg (av_ty x.2.2.1 x.2.2.2.1) ∧ (x.2.2.2.2.1 = 0 → av_ty x.2.2.1 x.2.2.2.1 = .int) ∧ av_FL own idx x.2.2.1 x.2.2.2.1 ∧
    ((av_T x.2.2.1 x.2.2.2.1).2.2.2 = false ∨ (own = x.2.2.1 ∧ (av_T x.2.2.1 x.2.2.2.1).1 = av_cn x.2.2.1 ∧ ini = true ∧ Cond.fieldLink (av_cn own) idx (av_T x.2.2.1 x.2.2.2.1).1 (av_T x.2.2.1 x.2.2.2.1).2.1 (av_T x.2.2.1 x.2.2.2.1).2.2.1 ∈ lw_tbl))
  | .getstatic idx => ∃ host, Cond.fieldLinkNest (av_cn own) idx RX7 "PLAIN_LAW" "[I" host ∈ lw_tbl
  | .newarray t => Cond.arrayClass (newarray.typeOf t) ∈ lw_tbl
  | .anewarray idx => ∃ C0, av_ft x.2.2.1 = .object C0 ∧ Cond.classLink (av_cn own) idx C0 ∈ lw_tbl ∧ Cond.arrayOver (.object C0) ∈ lw_tbl
  | .multianewarray idx d => d = 2 ∧ Cond.classLink (av_cn own) idx "[[I" ∈ lw_tbl
  | .new idx => x.2.2.1 < 9 ∧ Cond.classLink (av_cn own) idx (av_cn x.2.2.1) ∈ lw_tbl
  | .checkcast idx => Cond.classLink (av_cn own) idx "[I" ∈ lw_tbl
  | .invokespecial idx => 1000 ≤ x.2.2.1 → x.2.2.1 = 1000 ∧ av_lkP own 1000 idx ∧ 1 ≤ fr ∧ 40 ≤ lo
  | .invokestatic idx => 1000 ≤ x.2.2.1 → (x.2.2.1 = 1001 ∨ x.2.2.1 = 1002 ∨ x.2.2.1 = 1003) ∧ av_lkP own x.2.2.1 idx ∧ 1 ≤ fr ∧ 40 ≤ lo
  | .invokevirtual idx => 1000 ≤ x.2.2.1 → (x.2.2.1 = 1004 ∨ x.2.2.1 = 1005 ∨ x.2.2.1 = 1006) ∧ av_lkP own x.2.2.1 idx ∧ 4 ≤ fr ∧ 120 ≤ lo
  | _ => True)
/-- what the start holds that no cell of ours is -/
def av_Gl (s0 : State) (kr ad : Nat → Nat) (sc : av_Sr) : Prop := av_Sc s0 kr sc ∧ av_Pl s0 kr ∧ av_Str s0 kr ad ∧ ∀ q ∈ av_strs, vk_R (av_cn q.1) q.2.1 q.2.2.2 (kr q.2.2.1) s0
set_option maxRecDepth 100000 in
theorem av_f_oi : Cond.instanceMethod Lib.objectInit ∈ lw_tbl := av_mem (i := 24) rfl
set_option maxRecDepth 100000 in
theorem av_f_oc : Cond.code Lib.objectInit ⟨#[0xb1]⟩ 1 none ∈ lw_tbl := av_mem (i := 25) rfl
set_option maxRecDepth 100000 in
theorem av_f_ovA : Cond.arrayOver (.array .int) ∈ lw_tbl := av_mem (i := 68) rfl
set_option maxRecDepth 100000 in
theorem av_f_acI : Cond.arrayClass .int ∈ lw_tbl := av_mem (i := 95) rfl
set_option maxRecDepth 100000 in
theorem av_f_maxs : Cond.static Lib.Math.max.name ∈ lw_tbl := av_mem (i := 156) rfl
set_option maxRecDepth 100000 in
theorem av_f_maxc : Cond.code Lib.Math.max.name Lib.Math.max.code 2 (some .int) ∈ lw_tbl := av_mem (i := 157) rfl
set_option maxRecDepth 100000 in
theorem av_f_mins : Cond.static Lib.Math.min.name ∈ lw_tbl := av_mem (i := 150) rfl
set_option maxRecDepth 100000 in
theorem av_f_minc : Cond.code Lib.Math.min.name Lib.Math.min.code 2 (some .int) ∈ lw_tbl := av_mem (i := 151) rfl
set_option maxRecDepth 100000 in
theorem av_f_mi : Cond.initialized "java/lang/Math" ∈ lw_tbl := av_mem (i := 9) rfl
set_option maxRecDepth 100000 in
theorem av_f_si : Cond.initialized "java/lang/System" ∈ lw_tbl := av_mem (i := 10) rfl
set_option maxRecDepth 100000 in
theorem av_f_acn : Cond.native arraycopyName ∈ lw_tbl := av_mem (i := 154) rfl
set_option maxRecDepth 100000 in
theorem av_f_acs : Cond.static arraycopyName ∈ lw_tbl := av_mem (i := 153) rfl
set_option maxRecDepth 100000 in
theorem av_f_cls : Cond.sameMethod "[I" "java/lang/Object" "clone" "()Ljava/lang/Object;" ∈ lw_tbl := av_mem (i := 143) rfl
set_option maxRecDepth 100000 in
theorem av_f_cln : Cond.native ⟨"java/lang/Object", "clone", "()Ljava/lang/Object;"⟩ ∈ lw_tbl := av_mem (i := 144) rfl
set_option maxRecDepth 100000 in
theorem av_f_cli : Cond.instanceMethod ⟨"java/lang/Object", "clone", "()Ljava/lang/Object;"⟩ ∈ lw_tbl := av_mem (i := 145) rfl
set_option maxRecDepth 100000 in
theorem av_f_cle : Cond.selects "[I" ⟨"[I", "clone", "()Ljava/lang/Object;"⟩ ⟨"java/lang/Object", "clone", "()Ljava/lang/Object;"⟩ ∈ lw_tbl := av_mem (i := 146) rfl
set_option maxRecDepth 100000 in
theorem av_f_clc : Cond.castable "[I" "java/lang/Cloneable" ∈ lw_tbl := av_mem (i := 147) rfl
set_option maxRecDepth 100000 in
theorem av_f_leni : Cond.instanceMethod sm_y_len ∈ lw_tbl := av_mem (i := 375) rfl
set_option maxRecDepth 100000 in
theorem av_f_lene : Cond.selects "java/lang/String" sm_y_len sm_y_len ∈ lw_tbl := av_mem (i := 376) rfl
set_option maxRecDepth 100000 in
theorem av_f_lenc : Cond.code sm_y_len sm_c_len 1 (some .int) ∈ lw_tbl := av_mem (i := 377) rfl
set_option maxRecDepth 100000 in
theorem av_f_chri : Cond.instanceMethod sm_y_chr ∈ lw_tbl := av_mem (i := 385) rfl
set_option maxRecDepth 100000 in
theorem av_f_chre : Cond.selects "java/lang/String" sm_y_chr sm_y_chr ∈ lw_tbl := av_mem (i := 386) rfl
set_option maxRecDepth 100000 in
theorem av_f_chrc : Cond.code sm_y_chr sm_c_chr 2 (some .char) ∈ lw_tbl := av_mem (i := 387) rfl
set_option maxRecDepth 100000 in
theorem av_f_sti : Cond.initialized "java/lang/String" ∈ lw_tbl := av_mem (i := 13) rfl
theorem av_loff {ps : List (Int × Int)} {d v z : Int} (h1 : 0 ≤ z + d) (h2 : ∀ q ∈ ps, 0 ≤ z + q.2) : 0 ≤ z + Op.lookupswitch.offset ps d v := by
  induction ps with
  | nil => exact h1
  | cons q r ih =>
    obtain ⟨a, o⟩ := q
    simp only [Op.lookupswitch.offset]
    split
    · exact h2 (a, o) List.mem_cons_self
    · exact ih (fun q hq => h2 q (List.mem_cons_of_mem _ hq))
section AVE
variable {p : Program} {l : Launch} {e : Env} {R : Room} {s : State} {m : MethodId} {args : Array Value} {below : List Frame} {meth : Method} {c : Code} {Q : State → Prop}
variable {a0 : Array Value} {s0 : State} {D : va_G} {TY : Nat → ClassId} {kr ad : Nat → Nat} {sc : av_Sr} {own nL fr lo : Nat} {cc : ByteArray} {ini : Bool} {h0 hf h h' : av_H} {pc pc' : Nat} {lv lv' : av_L} {st st' : List av_V}

set_option maxHeartbeats 2000000 in
theorem av_step {x : av_E} (C : av_Cx p R s m meth c a0 s0 D TY own nL cc ini h0 hf) (G : av_Gl s0 kr ad sc) (hfr : R.frames = fr) (hlo : R.locals = lo) (hok : av_ok own cc ini fr lo pc x) (hkd : av_kd x = 0) (hs : av_stp sc x pc lv st h = some (pc', lv', st', h')) (hle : h'.1 ≤ hf.1 ∧ h'.2.1 ≤ hf.2.1) (k : av_W p l e R s m args below meth c Q s0 D TY kr sc nL h0 pc' lv' st' h') : av_W p l e R s m args below meth c Q s0 D TY kr sc nL h0 pc lv st h := by
  obtain ⟨ins, ln, xa, xb, xc, xk⟩ := x
  cases ins with
  | iconst n =>
    simp only [av_ok, av_len] at hok
    cases hs
    exact av_s_iconst C hok.1 k
  | bipush n =>
    simp only [av_ok, av_len] at hok
    cases hs
    exact av_s_bipush C hok.1 hok.2 k
  | sipush n =>
    simp only [av_ok, av_len] at hok
    cases hs
    exact av_s_sipush C hok.1 hok.2 k
  | lconst n =>
    simp only [av_ok, av_len] at hok
    cases hs
    exact av_s_lconst C hok.1 k
  | aconst_null =>
    simp only [av_ok, av_len] at hok
    cases hs
    exact av_s_null C hok.1 k
  | ldc n =>
    simp only [av_ok, av_len] at hok
    rcases hok.2 with ⟨q1, q2⟩ | ⟨q1, tx, q2⟩
    · simp only [av_stp, if_pos q1] at hs
      cases hs
      exact av_s_ldc C hok.1 q2 k
    · simp only [av_stp, if_neg q1] at hs
      cases hs
      have q3 := G.2.2.2 (own, n, xb, tx) q2
      exact av_s_ldcS C hok.1 q3 k
  | ldc_w n =>
    simp only [av_ok, av_len] at hok
    cases hs
    exact av_s_ldcw C hok.1 hok.2 k
  | ldc2_w n =>
    simp only [av_ok, av_len] at hok
    cases hs
    exact av_s_ldc2 C hok.1 hok.2 k
  | iload_n i =>
    simp only [av_ok, av_len] at hok
    exact av_s_iload_n C hok.1 hs k
  | iload i =>
    simp only [av_ok, av_len] at hok
    exact av_s_iload C hok.1 hs k
  | aload_n i =>
    simp only [av_ok, av_len] at hok
    exact av_s_aload_n C hok.1 hs k
  | aload i =>
    simp only [av_ok, av_len] at hok
    exact av_s_aload C hok.1 hs k
  | lload_n i =>
    simp only [av_ok, av_len] at hok
    exact av_s_lload_n C hok.1 hs k
  | lload i =>
    simp only [av_ok, av_len] at hok
    exact av_s_lload C hok.1 hs k
  | istore_n i =>
    simp only [av_ok, av_len] at hok
    exact av_s_istore_n C hok.1 hs k
  | istore i =>
    simp only [av_ok, av_len] at hok
    exact av_s_istore C hok.1 hs k
  | astore_n i =>
    simp only [av_ok, av_len] at hok
    exact av_s_astore_n C hok.1 hs k
  | astore i =>
    simp only [av_ok, av_len] at hok
    exact av_s_astore C hok.1 hs k
  | iinc i n =>
    simp only [av_ok, av_len] at hok
    exact av_s_iinc C hok.1 hs k
  | iadd =>
    simp only [av_ok, av_len] at hok
    exact av_s_iadd C hok.1 hs k
  | isub =>
    simp only [av_ok, av_len] at hok
    exact av_s_isub C hok.1 hs k
  | imul =>
    simp only [av_ok, av_len] at hok
    exact av_s_imul C hok.1 hs k
  | iand =>
    simp only [av_ok, av_len] at hok
    exact av_s_iand C hok.1 hs k
  | ior =>
    simp only [av_ok, av_len] at hok
    exact av_s_ior C hok.1 hs k
  | ishl =>
    simp only [av_ok, av_len] at hok
    exact av_s_ishl C hok.1 hs k
  | ishr =>
    simp only [av_ok, av_len] at hok
    exact av_s_ishr C hok.1 hs k
  | iushr =>
    simp only [av_ok, av_len] at hok
    exact av_s_iushr C hok.1 hs k
  | idiv =>
    simp only [av_ok, av_len] at hok
    simp only [av_stp] at hs
    split at hs
    · split at hs
      · cases hs
      · next q =>
        cases hs
        exact av_s_idiv C hok.1 q k
    · cases hs
  | irem =>
    simp only [av_ok, av_len] at hok
    simp only [av_stp] at hs
    split at hs
    · split at hs
      · cases hs
      · next q =>
        cases hs
        exact av_s_irem C hok.1 q k
    · cases hs
  | ladd =>
    simp only [av_ok, av_len] at hok
    simp only [av_stp] at hs
    split at hs
    · cases hs
      exact av_s_ladd C hok.1 k
    · cases hs
  | lmul =>
    simp only [av_ok, av_len] at hok
    simp only [av_stp] at hs
    split at hs
    · cases hs
      exact av_s_lmul C hok.1 k
    · cases hs
  | lcmp =>
    simp only [av_ok, av_len] at hok
    simp only [av_stp] at hs
    split at hs
    · cases hs
      exact av_s_lcmp C hok.1 k
    · cases hs
  | i2l =>
    simp only [av_ok, av_len] at hok
    simp only [av_stp] at hs
    split at hs
    · cases hs
      exact av_s_i2l C hok.1 k
    · cases hs
  | l2i =>
    simp only [av_ok, av_len] at hok
    simp only [av_stp] at hs
    split at hs
    · cases hs
      exact av_s_l2i C hok.1 k
    · cases hs
  | i2b =>
    simp only [av_ok, av_len] at hok
    simp only [av_stp] at hs
    split at hs
    · cases hs
      exact av_s_i2b C hok.1 k
    · cases hs
  | dup =>
    simp only [av_ok, av_len] at hok
    simp only [av_stp] at hs
    split at hs
    · split at hs
      · next q =>
        cases hs
        exact av_s_dup C hok.1 q k
      · cases hs
    · cases hs
  | pop =>
    simp only [av_ok, av_len] at hok
    simp only [av_stp] at hs
    split at hs
    · split at hs
      · next q =>
        cases hs
        exact av_s_pop C hok.1 q k
      · cases hs
    · cases hs
  | dup2 =>
    simp only [av_ok, av_len] at hok
    simp only [av_stp] at hs
    split at hs
    · split at hs
      · next q =>
        cases hs
        exact av_s_dup2 C hok.1 q.1 q.2 k
      · cases hs
    · cases hs
  | goto off =>
    simp only [av_ok, av_len] at hok
    cases hs
    exact av_s_goto C hok.1 hok.2 k
  | ifCond c0 off =>
    simp only [av_ok, av_len] at hok
    simp only [av_stp] at hs
    split at hs
    · cases hs
      exact av_s_if C hok.1 hok.2 k
    · cases hs
  | if_icmp c0 off =>
    simp only [av_ok, av_len] at hok
    simp only [av_stp] at hs
    split at hs
    · cases hs
      exact av_s_icmp C hok.1 hok.2 k
    · cases hs
  | ifnull off =>
    simp only [av_ok, av_len] at hok
    simp only [av_stp] at hs
    split at hs
    · cases hs
      exact av_s_ifnull C hok.1 hok.2 k
    · cases hs
  | ifnonnull off =>
    simp only [av_ok, av_len] at hok
    simp only [av_stp] at hs
    split at hs
    · cases hs
      exact av_s_ifnonnull C hok.1 hok.2 k
    · cases hs
  | tableswitch d0 low high offs =>
    simp only [av_ok, av_len] at hok
    simp only [av_stp] at hs
    split at hs
    · cases hs
      exact av_s_table C hok.1 hok.2.1 hok.2.2.1 hok.2.2.2 k
    · cases hs
  | lookupswitch d0 ps =>
    simp only [av_ok, av_len] at hok
    simp only [av_stp] at hs
    split at hs
    · cases hs
      exact av_s_lookup C hok.1 hok.2.1 (av_loff hok.2.2.1 hok.2.2.2) k
    · cases hs
  | getfield idx =>
    simp only [av_ok, av_len] at hok
    exact av_s_getf C hok.1 hok.2.1 hok.2.2.1 hok.2.2.2.1 hok.2.2.2.2 hs k
  | putfield idx =>
    simp only [av_ok, av_len] at hok
    exact av_s_putf C hok.1 hok.2.1 hok.2.2.1 hok.2.2.2.1 hok.2.2.2.2.1 hok.2.2.2.2.2.1 hok.2.2.2.2.2.2 hs k
  | getstatic idx =>
    simp only [av_ok, av_len] at hok
    cases hs
    exact av_s_gets C G.2.1 hok.1 (Or.inr hok.2) k
  | iaload =>
    simp only [av_ok, av_len] at hok
    exact av_s_iald C G.1 hok.1 hs k
  | baload =>
    simp only [av_ok, av_len] at hok
    exact av_s_bald C hok.1 hs k
  | aaload =>
    simp only [av_ok, av_len] at hok
    exact av_s_aald C hok.1 hs k
  | iastore =>
    simp only [av_ok, av_len] at hok
    exact av_s_iast C hok.1 hs k
  | bastore =>
    simp only [av_ok, av_len] at hok
    exact av_s_bast C hok.1 hs k
  | aastore =>
    simp only [av_ok, av_len] at hok
    exact av_s_aast C hok.1 hs k
  | arraylength =>
    simp only [av_ok, av_len] at hok
    exact av_s_alen C G.1 hok.1 hs k
  | newarray t =>
    simp only [av_ok, av_len] at hok
    exact av_s_newa C hok.1 hok.2 hs hle k
  | anewarray idx =>
    simp only [av_ok, av_len] at hok
    obtain ⟨C0, q1, q2, q3⟩ := hok.2
    exact av_s_anew (x := (.anewarray idx, ln, xa, xb, xc, xk)) C hok.1 q1 q2 q3 hs hle k
  | multianewarray idx d0 =>
    simp only [av_ok, av_len] at hok
    obtain ⟨q1, q2⟩ := hok.2
    subst q1
    exact av_s_mnew C hok.1 q2 av_f_ovA av_f_acI hs hle k
  | new idx =>
    simp only [av_ok, av_len] at hok
    cases hs
    exact av_s_new (x := (.new idx, ln, xa, xb, xc, xk)) C hok.1 hok.2.1 hok.2.2 hle k
  | checkcast idx =>
    simp only [av_ok, av_len] at hok
    simp only [av_stp] at hs
    split at hs
    · split at hs
      · next q =>
        cases hs
        exact av_s_cast C hok.1 hok.2 q k
      · cases hs
    · cases hs
  | invokespecial idx =>
    simp only [av_ok, av_len] at hok
    have hk9 : 1000 ≤ xa := by
      simp only [av_kd] at hkd
      split at hkd
      · cases hkd
      · omega
    obtain ⟨q1, q2, q3, q4⟩ := hok.2 hk9
    have q1 : xa = 1000 := q1
    subst q1
    simp only [av_stp] at hs
    unfold av_lib at hs
    split at hs <;> first | (next he => exact absurd he (by decide)) | skip
    · split at hs
      · next q =>
        cases hs
        exact av_s_objInit C hok.1 q2 av_f_oi av_f_oc q (by rw [hfr]; exact q3) (by rw [hlo]; exact q4) k
      · cases hs
    all_goals first | (cases hs; done) | skip
  | invokestatic idx =>
    simp only [av_ok, av_len] at hok
    have hk9 : 1000 ≤ xa := by
      simp only [av_kd] at hkd
      split at hkd
      · cases hkd
      · omega
    obtain ⟨q1, q2, q3, q4⟩ := hok.2 hk9
    have hf1 : 1 ≤ R.frames := by rw [hfr]; exact q3
    have hl1 : 40 ≤ R.locals := by rw [hlo]; exact q4
    simp only [av_stp] at hs
    rcases q1 with q1 | q1 | q1
    · have q1 : xa = 1001 := q1
      subst q1
      unfold av_lib at hs
      split at hs <;> first | (next he => exact absurd he (by decide)) | skip
      · split at hs
        · next q =>
          cases hs
          exact av_s_max C hok.1 q2 av_f_maxs av_f_mi av_f_maxc q hf1 hl1 hle k
        · cases hs
      all_goals first | (cases hs; done) | skip
    · have q1 : xa = 1002 := q1
      subst q1
      unfold av_lib at hs
      split at hs <;> first | (next he => exact absurd he (by decide)) | skip
      · split at hs
        · next q =>
          cases hs
          exact av_s_min C hok.1 q2 av_f_mins av_f_mi av_f_minc q hf1 hl1 hle k
        · cases hs
      all_goals first | (cases hs; done) | skip
    · have q1 : xa = 1003 := q1
      subst q1
      unfold av_lib at hs
      split at hs <;> first | (next he => exact absurd he (by decide)) | skip
      · split at hs
        · next q =>
          cases hs
          exact av_s_copy C hok.1 q2 av_f_acn av_f_acs av_f_si q.1 hf1 hl1 q.2 k
        · cases hs
      · split at hs
        · next q =>
          cases hs
          exact av_s_copyP C G.2.1 hok.1 q2 av_f_acn av_f_acs av_f_si q.1 hf1 hl1 q.2 k
        · cases hs
      all_goals first | (cases hs; done) | skip
  | invokevirtual idx =>
    simp only [av_ok, av_len] at hok
    have hk9 : 1000 ≤ xa := by
      simp only [av_kd] at hkd
      split at hkd
      · cases hkd
      · omega
    obtain ⟨q1, q2, q3, q4⟩ := hok.2 hk9
    have hf1 : 4 ≤ R.frames := by rw [hfr]; exact q3
    have hl1 : 120 ≤ R.locals := by rw [hlo]; exact q4
    simp only [av_stp] at hs
    rcases q1 with q1 | q1 | q1
    · have q1 : xa = 1004 := q1
      subst q1
      unfold av_lib at hs
      split at hs <;> first | (next he => exact absurd he (by decide)) | skip
      · split at hs
        · next q =>
          cases hs
          exact av_s_clone C hok.1 q2 av_f_cls av_f_cln av_f_cli av_f_cle av_f_clc q.2 q.1 (by omega) (by omega) hle k
        · cases hs
      all_goals first | (cases hs; done) | skip
    · have q1 : xa = 1005 := q1
      subst q1
      unfold av_lib at hs
      split at hs <;> first | (next he => exact absurd he (by decide)) | skip
      · split at hs
        · next q =>
          cases hs
          exact av_s_len C G.2.2.1 hok.1 q2 av_f_leni av_f_lene av_f_lenc av_f_sti q.1 q.2 (by omega) (by omega) hle k
        · cases hs
      all_goals first | (cases hs; done) | skip
    · have q1 : xa = 1006 := q1
      subst q1
      unfold av_lib at hs
      split at hs <;> first | (next he => exact absurd he (by decide)) | skip
      · split at hs
        · next q =>
          cases hs
          exact av_s_chr C G.2.2.1 hok.1 q2 av_f_chri av_f_chre av_f_chrc av_f_sti q.1 q.2.1 q.2.2 (by omega) (by omega) hle k
        · cases hs
      all_goals first | (cases hs; done) | skip
  | _ =>
    simp only [av_stp] at hs
    cases hs
end AVE
end
section
/-! EVERY RUN: what the small machine answers, the machine answers -/
theorem av_m_bin {f : Int → Int → Int} {pc pc' : Nat} {lv lv' : av_L} {st st' : List av_V} {h h' : av_H} (hs : av_bin f pc lv st h = some (pc', lv', st', h')) : h' = h := by
  unfold av_bin at hs
  split at hs
  · cases hs; rfl
  · cases hs
theorem av_m_ldi {i n pc pc' : Nat} {lv lv' : av_L} {st st' : List av_V} {h h' : av_H} (hs : av_ldi i n pc lv st h = some (pc', lv', st', h')) : h' = h := by
  unfold av_ldi at hs
  split at hs
  · cases hs; rfl
  · cases hs
theorem av_m_lda {i n pc pc' : Nat} {lv lv' : av_L} {st st' : List av_V} {h h' : av_H} (hs : av_lda i n pc lv st h = some (pc', lv', st', h')) : h' = h := by
  unfold av_lda at hs
  split at hs
  · cases hs; rfl
  · cases hs
theorem av_m_ldl {i n pc pc' : Nat} {lv lv' : av_L} {st st' : List av_V} {h h' : av_H} (hs : av_ldl i n pc lv st h = some (pc', lv', st', h')) : h' = h := by
  unfold av_ldl at hs
  split at hs
  · cases hs; rfl
  · cases hs
theorem av_m_sti {i n pc pc' : Nat} {lv lv' : av_L} {st st' : List av_V} {h h' : av_H} (hs : av_sti i n pc lv st h = some (pc', lv', st', h')) : h' = h := by
  unfold av_sti at hs
  split at hs
  · rw [Option.map_eq_some_iff] at hs
    obtain ⟨_, -, he⟩ := hs
    cases he; rfl
  · cases hs
theorem av_m_sta {i n pc pc' : Nat} {lv lv' : av_L} {st st' : List av_V} {h h' : av_H} (hs : av_sta i n pc lv st h = some (pc', lv', st', h')) : h' = h := by
  unfold av_sta at hs
  split at hs
  · rw [Option.map_eq_some_iff] at hs
    obtain ⟨_, -, he⟩ := hs
    cases he; rfl
  · cases hs
theorem av_m_iinc {i : Nat} {n : Int} {pc pc' : Nat} {lv lv' : av_L} {st st' : List av_V} {h h' : av_H} (hs : av_iinc i n pc lv st h = some (pc', lv', st', h')) : h' = h := by
  unfold av_iinc at hs
  split at hs
  · rw [Option.map_eq_some_iff] at hs
    obtain ⟨_, -, he⟩ := hs
    cases he; rfl
  · cases hs
/-- cells and slots only grow -/
abbrev av_gr (h h' : av_H) : Prop := h.1 ≤ h'.1 ∧ h.2.1 ≤ h'.2.1
theorem av_gr_of {h h' : av_H} (e : h' = h) : av_gr h h' := by
  rw [e]
  exact ⟨Nat.le_refl _, Nat.le_refl _⟩
theorem av_m_putf {x : av_E} {pc pc' : Nat} {lv lv' : av_L} {st st' : List av_V} {h h' : av_H} (hs : av_putf x pc lv st h = some (pc', lv', st', h')) : av_gr h h' := by
  unfold av_putf at hs
  split at hs
  · split at hs
    · cases hs; exact ⟨Nat.le_refl _, Nat.le_refl _⟩
    · cases hs
  · split at hs
    · cases hs; exact ⟨Nat.le_refl _, Nat.le_refl _⟩
    · cases hs
  · split at hs
    · cases hs; exact ⟨Nat.le_refl _, Nat.le_refl _⟩
    · cases hs
  · split at hs
    · cases hs; exact ⟨Nat.le_refl _, Nat.le_refl _⟩
    · cases hs
  · cases hs
theorem av_m_lib {a pc pc' : Nat} {lv lv' : av_L} {st st' : List av_V} {h h' : av_H} (hs : av_lib a pc lv st h = some (pc', lv', st', h')) : av_gr h h' := by
  unfold av_lib at hs
  split at hs
  · split at hs
    · cases hs; exact ⟨Nat.le_refl _, Nat.le_refl _⟩
    · cases hs
  · split at hs
    · cases hs; exact ⟨Nat.le_refl _, Nat.le_refl _⟩
    · cases hs
  · split at hs
    · cases hs; exact ⟨Nat.le_refl _, Nat.le_refl _⟩
    · cases hs
  · split at hs
    · cases hs; exact ⟨Nat.le_refl _, Nat.le_refl _⟩
    · cases hs
  · split at hs
    · cases hs; exact ⟨Nat.le_refl _, Nat.le_refl _⟩
    · cases hs
  · split at hs
    · cases hs; exact ⟨Nat.le_succ _, Nat.le_add_right _ _⟩
    · cases hs
  · split at hs
    · cases hs; exact ⟨Nat.le_refl _, Nat.le_refl _⟩
    · cases hs
  · split at hs
    · cases hs; exact ⟨Nat.le_refl _, Nat.le_refl _⟩
    · cases hs
  · cases hs
theorem av_m_stp {sc : av_Sr} {x : av_E} {pc pc' : Nat} {lv lv' : av_L} {st st' : List av_V} {h h' : av_H} (hs : av_stp sc x pc lv st h = some (pc', lv', st', h')) : av_gr h h' := by
  obtain ⟨ins, ln, xa, xb, xc, xk⟩ := x
  cases ins <;> simp only [av_stp] at hs
  all_goals first
    | (cases hs; done)
    | exact av_gr_of (av_m_bin hs)
    | exact av_gr_of (av_m_ldi hs)
    | exact av_gr_of (av_m_lda hs)
    | exact av_gr_of (av_m_ldl hs)
    | exact av_gr_of (av_m_sti hs)
    | exact av_gr_of (av_m_sta hs)
    | exact av_gr_of (av_m_iinc hs)
    | exact av_m_putf hs
    | exact av_m_lib hs
    | (cases hs; exact ⟨Nat.le_refl _, Nat.le_refl _⟩)
    | (cases hs; exact ⟨Nat.le_succ _, Nat.le_add_right _ _⟩)
    | skip
  all_goals first
    | unfold av_getf at hs
    | unfold av_ald at hs
    | unfold av_aald at hs
    | unfold av_iast at hs
    | unfold av_bast at hs
    | unfold av_aast at hs
    | unfold av_alen at hs
    | unfold av_newa at hs
    | unfold av_anew at hs
    | unfold av_mnew at hs
    | skip
  all_goals (repeat' split at hs)
  all_goals first
    | (cases hs; done)
    | (cases hs; exact ⟨Nat.le_refl _, Nat.le_refl _⟩)
    | (cases hs; exact ⟨Nat.le_succ _, Nat.le_add_right _ _⟩)
    | (cases hs; exact ⟨by show h.1 ≤ h.1 + 1 + _; omega, by show h.2.1 ≤ h.2.1 + _ + _; omega⟩)
theorem av_mono (P : av_P) : ∀ (n : Nat) (sc : av_Sr) (cd : List (Nat × av_E)) (pc : Nat) (lv : av_L) (st : List av_V) (h : av_H) (v : Option av_V) (h' : av_H), av_run P sc n cd pc lv st h = some (v, h') → av_gr h h' := by
  intro n
  induction n with
  | zero => intro sc cd pc lv st h v h' hs; simp [av_run] at hs
  | succ n ih =>
    intro sc cd pc lv st h v h' hs
    unfold av_run at hs
    split at hs
    · cases hs
    · next x hx =>
      split at hs
      · split at hs
        · cases hs
        · next pc1 lv1 st1 h1 hs1 =>
          have e1 := av_m_stp hs1
          have e2 := ih _ _ _ _ _ _ _ _ hs
          exact ⟨Nat.le_trans e1.1 e2.1, Nat.le_trans e1.2 e2.2⟩
      · unfold av_ret at hs
        split at hs
        · cases hs; exact ⟨Nat.le_refl _, Nat.le_refl _⟩
        · split at hs
          · cases hs; exact ⟨Nat.le_refl _, Nat.le_refl _⟩
          · cases hs
        · cases hs; exact ⟨Nat.le_refl _, Nat.le_refl _⟩
        · cases hs
      · split at hs
        · split at hs
          · split at hs
            · cases hs
            · next v1 h1 hs1 =>
              have e1 := ih _ _ _ _ _ _ _ _ hs1
              have e2 := ih _ _ _ _ _ _ _ _ hs
              exact ⟨Nat.le_trans e1.1 e2.1, Nat.le_trans e1.2 e2.2⟩
          · cases hs
        · cases hs
/-- a method: its class's row, name, bytes, locals, what it returns, its kind (0 an object's, 1 a constructor, 2 static), how many arguments, frames and words that it needs, its code -/
abbrev av_Mr : Type := Nat × MethodName × ByteArray × Nat × Option FieldType × Nat × Nat × Nat × Nat × List (Nat × av_E)
def av_rtk (rt : Option FieldType) (ins : Instr) (v : Option av_V) : Prop :=
  (ins = .return_ ∧ v = none ∧ rt = none) ∨ (ins = .ireturn ∧ ∃ x, v = some (.inl x) ∧ (rt = some .int ∨ (rt = some .boolean ∧ (x = 0 ∨ x = 1)))) ∨ (ins = .areturn ∧ ∃ q, v = some (.inr (.inr (.inl q))) ∧ ∃ t, rt = some t ∧ ((∃ n, t = .object n) ∨ ∃ u, t = .array u))
/-- a return's entry says what the method returns -/
def av_rok (rt : Option FieldType) (x : av_E) : Prop := match x.1 with
  | .return_ => rt = none
  | .ireturn => (x.2.2.1 = 0 ∧ rt = some .int) ∨ (x.2.2.1 = 1 ∧ rt = some .boolean)
  | .areturn => ∃ t, rt = some t ∧ ((∃ n, t = .object n) ∨ ∃ u, t = .array u)
  | _ => True
/-- a call's entry names a method of the table, of its kind, by the tables' word or by the nest's, and there is room for it -/
def av_cok (T : Nat → Option av_Mr) (own fr lo : Nat) (x : av_E) : Prop := ∃ r : av_Mr, T x.2.2.1 = some r ∧ r.2.2.2.2.2.1 = x.2.2.2.2.1 ∧ r.2.2.2.2.2.2.1 = x.2.2.2.1 ∧ (r.1 : Int) = x.2.2.2.2.2 ∧ r.2.2.2.2.2.2.2.1 + 1 ≤ fr ∧ 8 + (r.2.2.2.1 + 11) + r.2.2.2.2.2.2.2.2.1 ≤ lo ∧
  (match x.1 with
  | .invokevirtual idx => x.2.2.2.2.1 = 0 ∧ Cond.methodLink (av_cn own) idx r.2.1 ∈ lw_tbl
  | .invokespecial idx => x.2.2.2.2.1 = 1 ∧ (Cond.methodLink (av_cn own) idx r.2.1 ∈ lw_tbl ∨ ∃ host, Cond.methodLinkNest (av_cn own) idx r.2.1 host ∈ lw_tbl)
  | .invokestatic idx => x.2.2.2.2.1 = 2 ∧ Cond.methodLink (av_cn own) idx r.2.1 ∈ lw_tbl
  | _ => True)
/-- a method's code is what its bytes say -/
def av_dok (T : Nat → Option av_Mr) (r : av_Mr) : Prop := ∀ q ∈ r.2.2.2.2.2.2.2.2.2, av_ok r.1 r.2.2.1 (decide (r.2.2.2.2.2.1 = 1)) r.2.2.2.2.2.2.2.1 r.2.2.2.2.2.2.2.2.1 q.1 q.2 ∧ av_rok r.2.2.2.2.1 q.2 ∧ (av_kd q.2 = 2 → av_cok T r.1 r.2.2.2.2.2.2.2.1 r.2.2.2.2.2.2.2.2.1 q.2)
/-- a method that may be called: what the tables say of it -/
def av_hok (r : av_Mr) : Prop := plainName r.2.1.cls = true ∧ av_cn r.1 = r.2.1.cls ∧ Cond.code r.2.1 r.2.2.1 r.2.2.2.1 r.2.2.2.2.1 ∈ lw_tbl ∧ Cond.initialized r.2.1.cls ∈ lw_tbl ∧ (r.2.1.cls ≠ "java/lang/invoke/MethodHandle" ∧ r.2.1.cls ≠ "java/lang/invoke/VarHandle") ∧ (parseMethodDescriptor r.2.1.desc).map (fun d => d.parameters.length) = some r.2.2.2.2.2.2.1 ∧
  ((r.2.2.2.2.2.1 = 0 ∧ r.1 < 9 ∧ Cond.instanceMethod r.2.1 ∈ lw_tbl ∧ Cond.selects r.2.1.cls r.2.1 r.2.1 ∈ lw_tbl) ∨ (r.2.2.2.2.2.1 = 1 ∧ r.2.1.name = "<init>" ∧ Cond.instanceMethod r.2.1 ∈ lw_tbl ∧ r.2.2.2.2.1 = none) ∨ (r.2.2.2.2.2.1 = 2 ∧ Cond.static r.2.1 ∈ lw_tbl))
def av_Good (T : Nat → Option av_Mr) : Prop := ∀ mi r, T mi = some r → av_dok T r ∧ av_hok r
def av_Pt (T : Nat → Option av_Mr) : av_P := fun mi => (T mi).map (fun r => (r.2.2.2.1, r.2.2.2.2.2.2.2.2.2))
end
section
/-! THE RUN: by the fuel -/
def av_Qm (s0 : State) (D : va_G) (TY : Nat → ClassId) (kr : Nat → Nat) (sc : av_Sr) (v : Option av_V) (h' : av_H) : Array Value → State → Outcome → State → Prop := fun _ _ o t => o = .returned (v.map (av_ev s0.heap.size kr)) ∧ av_R s0 D TY sc h' t.heap
def av_Pm (s0 : State) (D : va_G) (TY : Nat → ClassId) (kr : Nat → Nat) (sc : av_Sr) (vs : List av_V) (h : av_H) : Array Value → State → Prop := fun a U => a = (vs.map (av_ev s0.heap.size kr)).toArray ∧ s0.WarmedH U.vm ∧ av_R s0 D TY sc h U.heap
def av_Rm (r : av_Mr) (h h' : av_H) : Room := { frames := r.2.2.2.2.2.2.2.1, cells := h'.1 - h.1, slots := h'.2.1 - h.2.1, locals := r.2.2.2.2.2.2.2.2.1 }
/-- a method's contract, at these values and this heap -/
def av_Mt (l : Launch) (s0 : State) (D : va_G) (TY : Nat → ClassId) (kr : Nat → Nat) (sc : av_Sr) (r : av_Mr) (vs : List av_V) (h : av_H) (v : Option av_V) (h' : av_H) : Prop :=
  Met l r.2.1 [Cond.code r.2.1 r.2.2.1 r.2.2.2.1 r.2.2.2.2.1] (av_Rm r h h') (av_Pm s0 D TY kr sc vs h) (av_Qm s0 D TY kr sc v h') (h'.1 - h.1) (h'.2.1 - h.2.1) (fun q => s0.heap.size ≤ q)
theorem av_lookup {cd : List (Nat × av_E)} {pc : Nat} {x : av_E} (h : cd.lookup pc = some x) : (pc, x) ∈ cd := by
  induction cd with
  | nil => cases h
  | cons q t ih =>
    obtain ⟨k, y⟩ := q
    simp only [List.lookup] at h
    split at h
    · next e =>
      cases h
      have e1 : pc = k := by simpa using e
      rw [e1]
      exact List.mem_cons_self
    · exact List.mem_cons_of_mem _ (ih h)
theorem av_ents {z : Nat} {kr : Nat → Nat} : ∀ (vs : List av_V), (lg_sl (vs.map (av_ev z kr))).length = (av_args vs).length ∧ ∀ (i : Nat) (v : av_V), (av_args vs)[i]? = some (some v) → ∀ n : Nat, (n + i, av_ev z kr v) ∈ lv_args n (vs.map (av_ev z kr)) := by
  intro vs
  induction vs with
  | nil => exact ⟨rfl, fun i v h => by simp [av_args] at h⟩
  | cons u us ih =>
    by_cases hc : av_cat u = 2
    · have hc' : (av_ev z kr u).category = 2 := by rw [av_ev_cat]; exact hc
      refine ⟨by simp only [List.map_cons, lg_sl, List.flatMap_cons, hc', if_true, av_args, hc] at *; simp [ih.1], fun i v h n => ?_⟩
      simp only [av_args, hc, if_true] at h
      simp only [List.map_cons, lv_args, hc', if_true]
      rcases i with _ | _ | i
      · cases h
        exact List.mem_cons_self
      · cases h
      · have := ih.2 i v (by simpa using h) (n + 2)
        rw [show n + 2 + i = n + (i + 1 + 1) by omega] at this
        exact List.mem_cons_of_mem _ this
    · have hc' : ¬ (av_ev z kr u).category = 2 := by rw [av_ev_cat]; exact hc
      refine ⟨by simp only [List.map_cons, lg_sl, List.flatMap_cons, hc', if_false, av_args, hc] at *; simp [ih.1], fun i v h n => ?_⟩
      simp only [av_args, hc, if_false] at h
      simp only [List.map_cons, lv_args, hc', if_false]
      rcases i with _ | i
      · cases h
        exact List.mem_cons_self
      · have := ih.2 i v (by simpa using h) (n + 1)
        rw [show n + 1 + i = n + (i + 1) by omega] at this
        exact List.mem_cons_of_mem _ this
theorem av_entry {z : Nat} {kr : Nat → Nat} {n : Nat} {vs : List av_V} (h : (av_args vs).length ≤ n) : av_Lr z kr ((lg_sl (vs.map (av_ev z kr)) ++ List.replicate (n - (lg_sl (vs.map (av_ev z kr))).length) Slot.unset).toArray) n (av_ent n vs) := by
  obtain ⟨e1, e2⟩ := av_ents (z := z) (kr := kr) vs
  have hh := lv_entry (vs.map (av_ev z kr)) (n := n) (by rw [e1]; exact h)
  refine ⟨hh.1, by simp [av_ent]; omega, hh.2.1, fun i v hv => ?_⟩
  unfold av_ent at hv
  have hi : i < (av_args vs).length := by
    by_cases q : i < (av_args vs).length
    · exact q
    · rw [List.getElem?_append_right (by omega)] at hv
      have := List.eq_of_mem_replicate (List.mem_of_getElem? hv)
      cases this
  rw [List.getElem?_append_left hi] at hv
  have := e2 i v hv 0
  rw [Nat.zero_add] at this
  exact hh.2.2 _ this
section AVR
variable {l : Launch} {a0 : Array Value} {s0 : State} {D : va_G} {TY : Nat → ClassId} {kr ad : Nat → Nat} {sc : av_Sr} {T : Nat → Option av_Mr}
/-- what a body gives, with this fuel -/
def av_Bd (l : Launch) (a0 : Array Value) (s0 : State) (D : va_G) (TY : Nat → ClassId) (kr : Nat → Nat) (sc : av_Sr) (T : Nat → Option av_Mr) (n : Nat) : Prop :=
  ∀ (p : Program) (e : Env) (R : Room) (s : State) (m : MethodId) (args : Array Value) (below : List Frame) (meth : Method) (c : Code) (Q : State → Prop) (r : av_Mr) (h0 hf h : av_H) (pc : Nat) (lv : av_L) (st : List av_V) (v : Option av_V),
    av_dok T r → av_Cx p R s m meth c a0 s0 D TY r.1 r.2.2.2.1 r.2.2.1 (decide (r.2.2.2.2.2.1 = 1)) h0 hf → R.frames = r.2.2.2.2.2.2.2.1 → R.locals = r.2.2.2.2.2.2.2.2.1 →
    (∀ (pc' : Nat) (lv' : av_L) (ins : Instr), decode r.2.2.1 pc' = .ok (ins, 1) → av_rtk r.2.2.2.2.1 ins v → av_W p l e R s m args below meth c Q s0 D TY kr sc r.2.2.2.1 h0 pc' lv' v.toList hf) →
    av_run (av_Pt T) sc n r.2.2.2.2.2.2.2.2.2 pc lv st h = some (v, hf) → av_W p l e R s m args below meth c Q s0 D TY kr sc r.2.2.2.1 h0 pc lv st h
theorem av_met {n : Nat} (hZ : av_Z a0 s0 D TY) (hB : av_Bd l a0 s0 D TY kr none T n) {r : av_Mr} (hd : av_dok T r) (hh : av_hok r) {vs : List av_V} {h h' : av_H} {v : Option av_V} (ha : (av_args vs).length ≤ r.2.2.2.1) (hr : av_run (av_Pt T) none n r.2.2.2.2.2.2.2.2.2 0 (av_ent r.2.2.2.1 vs) [] h = some (v, h')) : av_Mt l s0 D TY kr sc r vs h v h' := by
  have hmono := av_mono _ _ _ _ _ _ _ _ _ _ hr
  refine Met.ofW (cc := r.2.2.1) (maxL := r.2.2.2.1) (ret := r.2.2.2.2.1) hh.1 rfl ?_
  intro p e s m args below meth c s₁ B hml hv
  obtain ⟨rfl, hW, hR⟩ := hv
  have hown : s.vm.findClass (av_cn r.1) = some m.cls := by
    rw [hh.2.1]
    exact findClass_of_methodNamed B.named
  have hin : decide (r.2.2.2.2.2.1 = 1) = true → meth.name = "<init>" := by
    intro q
    have q := of_decide_eq_true q
    rcases hh.2.2.2.2.2.2 with g | g | g
    · omega
    · rw [(name_of_methodNamed B.named B.method).1]
      exact g.2.1
    · omega
  have hlocks := B.notSynchronized
  have C : av_Cx p (headSpec [Cond.code r.2.1 r.2.2.1 r.2.2.2.1 r.2.2.2.2.1] (av_Rm r h h')).room s m meth c a0 s0 D TY r.1 r.2.2.2.1 r.2.2.1 (decide (r.2.2.2.2.2.1 = 1)) h h' :=
    ⟨B.exec, B.bytes, hml, hown, hW, hZ, hin, Nat.le_refl _, Nat.le_refl _⟩
  have hret : ∀ (pc' : Nat) (lv' : av_L) (ins : Instr), decode r.2.2.1 pc' = .ok (ins, 1) → av_rtk r.2.2.2.2.1 ins v → av_W p l e (headSpec [Cond.code r.2.1 r.2.2.1 r.2.2.2.1 r.2.2.2.2.1] (av_Rm r h h')).room s m (vs.map (av_ev s0.heap.size kr)).toArray below meth c (MQ below (av_Qm s0 D TY kr sc v h') (vs.map (av_ev s0.heap.size kr)).toArray s (h'.1 - h.1) (h'.2.1 - h.2.1) (fun q => s0.heap.size ≤ q)) s0 D TY kr sc r.2.2.2.1 h pc' lv' v.toList h' := by
    intro pc' lv' ins hdg hk H locs ls hR' hl hL _ _
    have hq : ∀ t : State, t.heap = H → s.WarmedH t.vm → av_Qm s0 D TY kr sc v h' (vs.map (av_ev s0.heap.size kr)).toArray s (.returned (v.map (av_ev s0.heap.size kr))) t := fun t ht _ => ⟨rfl, by rw [ht]; exact hR'⟩
    rcases hk with ⟨rfl, rfl, hrt⟩ | ⟨rfl, x, rfl, hrt⟩ | ⟨rfl, q, rfl, t, hrt, hty⟩
    · exact W.vret B.exec B.bytes (B.returns.trans hrt) hq hl hdg
    · rcases hrt with hrt | ⟨hrt, hx⟩
      · exact W.iret B.exec B.bytes (B.returns.trans hrt) hq hl hdg
      · exact W.zret B.exec B.bytes (B.returns.trans hrt) (av_bool hx).1 hq hl hdg
    · exact W.aret B.exec B.bytes (B.returns.trans hrt) hty (va_rf_or _) hq hl hdg
  have hw := hB p e (headSpec [Cond.code r.2.1 r.2.2.1 r.2.2.2.1 r.2.2.2.2.1] (av_Rm r h h')).room s m (vs.map (av_ev s0.heap.size kr)).toArray below meth c (MQ below (av_Qm s0 D TY kr sc v h') (vs.map (av_ev s0.heap.size kr)).toArray s (h'.1 - h.1) (h'.2.1 - h.2.1) (fun q => s0.heap.size ≤ q)) r h h' h 0 (av_ent r.2.2.2.1 vs) [] v hd C rfl rfl hret hr
  have hw := hw s.heap [] _ hR (fun q hq => by cases hq) (av_entry ha) (Nat.le_refl _) (Nat.le_refl _)
  rw [lg_entry_eq]
  rw [Nat.sub_self, Nat.sub_self] at hw
  exact hw
theorem av_blindM {vs : List av_V} {h : av_H} : FrameBlind (av_Pm s0 D TY kr sc vs h) := fun _ _ _ _ q => q
/-- behind a call, by what the callee's contract says -/
theorem av_back {p : Program} {e : Env} {R : Room} {s : State} {m : MethodId} {args : Array Value} {below : List Frame} {meth : Method} {c : Code} {Q : State → Prop} {nL : Nat} {h0 h h1 : av_H} {pc : Nat} {lv : av_L} {rst : List av_V} {v : Option av_V} {H : Heap} {locs : List Loc} {ls : Array Slot} {st0 : List Value} {vs : Array Value}
    (hr : va_Run p l e R s m args below meth c H locs (h.1 - h0.1) (h.2.1 - h0.2.1) (h1.1 - h.1) (h1.2.1 - h.2.1) (F0 m pc ls st0) (rst.map (av_ev s0.heap.size kr)) (av_Qm s0 D TY kr sc v h1 vs) (fun q => s0.heap.size ≤ q))
    (hg : av_gr h h1) (hl : ∀ q ∈ locs, s0.heap.size ≤ q.base) (hL : av_Lr s0.heap.size kr ls nL lv) (g1 : h0.1 ≤ h.1) (g2 : h0.2.1 ≤ h.2.1) (k : av_W p l e R s m args below meth c Q s0 D TY kr sc nL h0 (pc + 3) lv (v.toList ++ rst) h1) :
    W p l e R s m args below meth c H locs (h.1 - h0.1) (h.2.1 - h0.2.1) Q (F0 m pc ls st0) := by
  intro T hT X
  obtain ⟨v', st₀, t, T', L, e0, X', hL', e1, e2, ⟨hv, hRt⟩, step⟩ := hr T hT X
  have hv : v' = v.map (av_ev s0.heap.size kr) := by
    have := hv
    simpa using this
  subst hv
  have hg1 := hg.1
  have hg2 := hg.2
  have kk := k T'.heap (locs ++ L) ls (by rw [e1]; exact hRt) (fun q hq => by
    rcases List.mem_append.mp hq with hq | hq
    · exact hl q hq
    · exact hL' q hq) hL (by omega) (by omega)
  rw [show h1.1 - h0.1 = h.1 - h0.1 + (h1.1 - h.1) by omega, show h1.2.1 - h0.2.1 = h.2.1 - h0.2.1 + (h1.2.1 - h.2.1) by omega] at kk
  obtain ⟨t2, b1, b2⟩ := kk T' rfl X'
  refine ⟨t2, step t2 ?_, b2⟩
  have e3 : (v.map (av_ev s0.heap.size kr)).toList ++ rst.map (av_ev s0.heap.size kr) = (v.toList ++ rst).map (av_ev s0.heap.size kr) := by
    cases v <;> simp
  rw [e3]
  exact b1
end AVR
end
section
/-! WHAT THE SMALL MACHINE ANSWERS, THE MACHINE ANSWERS -/
theorem av_take {b : Nat} {st : List av_V} {z : Nat} {kr : Nat → Nat} (hb : b ≤ st.length) : (((st.take b).reverse).map (av_ev z kr)).length = b := by
  simp
  omega
theorem av_popS {x : av_E} {st vs rst : List av_V} {h : av_H} (hp : av_pop x st h = some (vs, rst)) (hc : x.2.2.2.2.1 = 2) : x.2.2.2.1 ≤ st.length ∧ st.drop x.2.2.2.1 = rst ∧ (rst.map av_cat).sum ≤ 8 ∧ vs = (st.take x.2.2.2.1).reverse := by
  unfold av_pop at hp
  rw [hc] at hp
  split at hp
  · next hb =>
    simp only at hp
    split at hp
    · next hq =>
      cases hp
      exact ⟨hb, rfl, hq, rfl⟩
    · cases hp
  · cases hp
theorem av_popV {x : av_E} {st vs rst : List av_V} {h : av_H} (hp : av_pop x st h = some (vs, rst)) (hc : x.2.2.2.2.1 = 0 ∨ x.2.2.2.2.1 = 1) : x.2.2.2.1 ≤ st.length ∧ ∃ o, st.drop x.2.2.2.1 = .inr (.inr (.inl (some o))) :: rst ∧ (rst.map av_cat).sum ≤ 8 ∧ o < h.1 ∧ ((h.2.2.1 o).1 : Int) = x.2.2.2.2.2 ∧ vs = .inr (.inr (.inl (some o))) :: (st.take x.2.2.2.1).reverse := by
  unfold av_pop at hp
  split at hp
  · next hb =>
    refine ⟨hb, ?_⟩
    cases hdr : st.drop x.2.2.2.1 with
    | nil =>
      rw [hdr] at hp
      rcases hc with hc | hc <;> (rw [hc] at hp; simp at hp)
    | cons u us =>
      rw [hdr] at hp
      have go : ∀ o, u = .inr (.inr (.inl (some o))) → (if (us.map av_cat).sum ≤ 8 ∧ o < h.1 ∧ ((h.2.2.1 o).1 : Int) = x.2.2.2.2.2 then some (.inr (.inr (.inl (some o))) :: (st.take x.2.2.2.1).reverse, us) else none) = some (vs, rst) → ∃ o, u :: us = .inr (.inr (.inl (some o))) :: rst ∧ (rst.map av_cat).sum ≤ 8 ∧ o < h.1 ∧ ((h.2.2.1 o).1 : Int) = x.2.2.2.2.2 ∧ vs = .inr (.inr (.inl (some o))) :: (st.take x.2.2.2.1).reverse := by
        intro o hu hp
        split at hp
        · next hq =>
          cases hp
          exact ⟨o, by rw [hu], hq.1, hq.2.1, hq.2.2, rfl⟩
        · cases hp
      rcases u with y | y | (_ | o) | y <;> (rcases hc with hc | hc <;> (rw [hc] at hp; simp only at hp)) <;> first | (cases hp; done) | exact go o rfl hp
  · cases hp
theorem av_all {l : Launch} {a0 : Array Value} {s0 : State} {D : va_G} {TY : Nat → ClassId} {kr ad : Nat → Nat} {T : Nat → Option av_Mr} (hG : av_Good T) (hZ : av_Z a0 s0 D TY) (G0 : av_Gl s0 kr ad none) : ∀ n, ∀ sc, av_Gl s0 kr ad sc → av_Bd l a0 s0 D TY kr sc T n := by
  intro n
  induction n with
  | zero => intro sc G p e R s m args below meth c Q r h0 hf h pc lv st v hd C hfr hlo kret hs; simp [av_run] at hs
  | succ n ih =>
    intro sc G p e R s m args below meth c Q r h0 hf h pc lv st v hd C hfr hlo kret hs
    unfold av_run at hs
    split at hs
    · cases hs
    · next x hx =>
      obtain ⟨hok, hrk, hck⟩ := hd _ (av_lookup hx)
      split at hs
      · next hkd =>
        split at hs
        · cases hs
        · next pc1 lv1 st1 h1 hs1 =>
          exact av_step C G hfr hlo hok hkd hs1 (av_mono _ _ _ _ _ _ _ _ _ _ hs) (ih sc G p e R s m args below meth c Q r h0 hf h1 pc1 lv1 st1 v hd C hfr hlo kret hs)
      · obtain ⟨ins, ln, xa, xb, xc, xk⟩ := x
        unfold av_ret at hs
        split at hs
        · next he =>
          cases hs
          have he : ins = .return_ := he
          subst he
          exact kret pc lv _ hok.1 (Or.inl ⟨rfl, rfl, hrk⟩)
        · next y he =>
          have he : ins = .ireturn := he
          subst he
          split at hs
          · next hc =>
            cases hs
            refine kret pc lv _ hok.1 (Or.inr (Or.inl ⟨rfl, y, rfl, ?_⟩))
            have hrk : (xa = 0 ∧ r.2.2.2.2.1 = some .int) ∨ (xa = 1 ∧ r.2.2.2.2.1 = some .boolean) := hrk
            rcases hrk with ⟨q1, q2⟩ | ⟨q1, q2⟩
            · exact Or.inl q2
            · refine Or.inr ⟨q2, ?_⟩
              rcases hc with hc | hc
              · have hc : xa = 0 := hc
                omega
              · exact hc
          · cases hs
        · next y he =>
          cases hs
          have he : ins = .areturn := he
          subst he
          exact kret pc lv _ hok.1 (Or.inr (Or.inr ⟨rfl, y, rfl, hrk⟩))
        · cases hs
      · next hk0 hk1 =>
        have hkd : av_kd x = 2 := by
          have : av_kd x = 0 ∨ av_kd x = 1 ∨ av_kd x = 2 := by
            obtain ⟨ins, ln, xa, xb, xc, xk⟩ := x
            cases ins <;> simp only [av_kd] <;> first | (split <;> simp) | simp
          rcases this with q | q | q
          · exact absurd q hk0
          · exact absurd q hk1
          · exact q
        dsimp only at hok hrk hck
        obtain ⟨r', hT, hkind, hna, hown', hf1, hl1, hlink⟩ := hck hkd
        have hPt : av_Pt T x.2.2.1 = some (r'.2.2.2.1, r'.2.2.2.2.2.2.2.2.2) := by
          unfold av_Pt
          rw [hT]
          rfl
        rw [hPt] at hs
        split at hs
        · next M vs rst hM hpop =>
          cases hM
          split at hs
          · next hlen =>
            split at hs
            · cases hs
            · next u h1 hcall =>
              obtain ⟨hd', hh'⟩ := hG _ _ hT
              have hMt := av_met (sc := sc) hZ (ih none G0) hd' hh' hlen hcall
              have m1 := av_mono _ _ _ _ _ _ _ _ _ _ hcall
              have m2 := av_mono _ _ _ _ _ _ _ _ _ _ hs
              have k := ih sc G p e R s m args below meth c Q r h0 hf h1 (pc + 3) lv (u.toList ++ rst) v hd C hfr hlo kret hs
              have hZ1 := hZ.1
              have hW := C.2.2.2.2.1
              intro H locs ls hR hl hL g1 g2
              refine av_back (st0 := st.map (av_ev s0.heap.size kr)) (v := u) (vs := (vs.map (av_ev s0.heap.size kr)).toArray) ?_ m1 hl hL g1 g2 k
              have hroom : (h.1 - h0.1) + (h1.1 - h.1) ≤ R.cells ∧ (h.2.1 - h0.2.1) + (h1.2.1 - h.2.1) ≤ R.slots := by
                have := C.2.2.2.2.2.2.2
                have := m1.1
                have := m1.2
                have := m2.1
                have := m2.2
                omega
              have hPre : ∀ U : State, U.heap = H → s.WarmedH U.vm → av_Pm s0 D TY kr sc vs h (vs.map (av_ev s0.heap.size kr)).toArray U := fun U hU hWU => ⟨rfl, State.WarmedH.trans hW hWU, by rw [hU]; exact hR⟩
              obtain ⟨hp1, hp2, hp3, hp4, hp5, hp6, hp7⟩ := hh'
              have hi3 : (∃ idx, x.1 = .invokevirtual idx) ∨ (∃ idx, x.1 = .invokespecial idx) ∨ ∃ idx, x.1 = .invokestatic idx := by
                obtain ⟨ins, ln, xa, xb, xc, xk⟩ := x
                cases ins <;> simp only [av_kd] at hkd <;> first | (cases hkd; done) | simp
              have hdec : decode r.2.2.1 pc = .ok (x.1, 3) := by
                have := hok.1
                unfold av_len at this
                rcases hi3 with ⟨i, he⟩ | ⟨i, he⟩ | ⟨i, he⟩ <;> (rw [he] at this ⊢; exact this)
              have hst : st = st.take x.2.2.2.1 ++ st.drop x.2.2.2.1 := (List.take_append_drop _ _).symm
              have hfrm : r'.2.2.2.2.2.2.2.1 + 1 ≤ R.frames := by rw [hfr]; exact hf1
              have hlom : 8 + (r'.2.2.2.1 + 11) + r'.2.2.2.2.2.2.2.2.1 ≤ R.locals := by rw [hlo]; exact hl1
              rcases hi3 with ⟨idx, he⟩ | ⟨idx, he⟩ | ⟨idx, he⟩
              · rw [he] at hlink hdec
                obtain ⟨hc0, hlk⟩ := hlink
                obtain ⟨hbl, o, hdrop, q1, q2, q3, rfl⟩ := av_popV hpop (Or.inl hc0)
                have hlen9 := av_take (z := s0.heap.size) (kr := kr) hbl
                rcases hp7 with ⟨-, g9, gi, gs⟩ | ⟨g, -⟩ | ⟨g, -⟩
                · have q4 : (h.2.2.1 o).1 = r'.1 := by omega
                  have hrc : ∃ cellB : Cell, H[s0.heap.size + o]? = some cellB ∧ cellB.vm.isStatics = false ∧ s.vm.findClass r'.2.1.cls = some cellB.cls := by
                    have hat := hR.2.2.2 o q2
                    unfold av_at at hat
                    rw [if_pos (by rw [q4]; exact g9), q4] at hat
                    obtain ⟨cell, b1, b2, b3, -⟩ := hat
                    refine ⟨cell, b1, by rw [b3]; rfl, ?_⟩
                    rw [← hp2, b2]
                    exact (av_kn C g9).2.1
                  refine va_runV (C := r'.2.1.cls) (As := ((st.take x.2.2.2.1).reverse).map (av_ev s0.heap.size kr)) (b := s0.heap.size + o) (Ts := []) ⟨C.1, C.2.1, C.2.2.1, C.2.2.2.1, fun w hw => by cases hw⟩ hMt ⟨av_CB hZ1 hW rfl rfl hfrm hlom hp3 hp4 hlk hp5 hp6, av_go hZ1 hW gi rfl, av_go hZ1 hW gs rfl⟩ ⟨av_blindM, hrc, hPre⟩ rfl (hlen9.trans hna.symm) hL.1 ?_ (lv_room (by rw [av_cats]; exact q1)) hdec hroom
                  show st.map (av_ev s0.heap.size kr) = _
                  conv => lhs; rw [hst, hdrop]
                  simp [av_ev, va_rf]
                · omega
                · omega
              · rw [he] at hlink hdec
                obtain ⟨hc0, hlk⟩ := hlink
                obtain ⟨hbl, o, hdrop, q1, q2, q3, rfl⟩ := av_popV hpop (Or.inr hc0)
                have hlen9 := av_take (z := s0.heap.size) (kr := kr) hbl
                rcases hp7 with ⟨g, -⟩ | ⟨-, gn, gi, grt⟩ | ⟨g, -⟩
                · omega
                · unfold av_Mt at hMt
                  rw [grt] at hMt hp3
                  have hstk : st.map (av_ev s0.heap.size kr) = (((st.take x.2.2.2.1).reverse).map (av_ev s0.heap.size kr)).reverse ++ .ref (s0.heap.size + o) :: rst.map (av_ev s0.heap.size kr) := by
                    conv => lhs; rw [hst, hdrop]
                    simp [av_ev, va_rf]
                  rcases hlk with hlk | ⟨host, hlk⟩
                  · exact va_runI (As := ((st.take x.2.2.2.1).reverse).map (av_ev s0.heap.size kr)) (b := s0.heap.size + o) (Ts := []) ⟨C.1, C.2.1, C.2.2.1, C.2.2.2.1, fun w hw => by cases hw⟩ hMt ⟨av_CB hZ1 hW rfl rfl hfrm hlom hp3 hp4 hlk hp5 hp6, gn, av_go hZ1 hW gi rfl⟩ ⟨av_blindM, hPre⟩ rfl (hlen9.trans hna.symm) hL.1 hstk (lv_room (by rw [av_cats]; exact q1)) hdec hroom
                  · exact va_runIN (As := ((st.take x.2.2.2.1).reverse).map (av_ev s0.heap.size kr)) (b := s0.heap.size + o) (Ts := []) ⟨C.1, C.2.1, C.2.2.1, C.2.2.2.1, fun w hw => by cases hw⟩ hMt ⟨av_CN hZ1 hW rfl rfl hfrm hlom hp3 hp4 hlk hp5 hp6, gn, av_go hZ1 hW gi rfl⟩ ⟨av_blindM, hPre⟩ rfl (hlen9.trans hna.symm) hL.1 hstk (lv_room (by rw [av_cats]; exact q1)) hdec hroom
                · omega
              · rw [he] at hlink hdec
                obtain ⟨hc0, hlk⟩ := hlink
                obtain ⟨hbl, hdrop, q1, rfl⟩ := av_popS hpop hc0
                have hlen9 := av_take (z := s0.heap.size) (kr := kr) hbl
                rcases hp7 with ⟨g, -⟩ | ⟨g, -⟩ | ⟨-, gs⟩
                · omega
                · omega
                · refine va_runS (As := ((st.take x.2.2.2.1).reverse).map (av_ev s0.heap.size kr)) (Ts := []) ⟨C.1, C.2.1, C.2.2.1, C.2.2.2.1, fun w hw => by cases hw⟩ hMt ⟨av_CB hZ1 hW rfl rfl hfrm hlom hp3 hp4 hlk hp5 hp6, av_go hZ1 hW gs rfl⟩ ⟨av_blindM, hPre⟩ rfl (hlen9.trans hna.symm) hL.1 ?_ (lv_room (by rw [av_cats]; exact q1)) hdec hroom
                  show st.map (av_ev s0.heap.size kr) = _
                  conv => lhs; rw [hst, hdrop]
                  simp
          · cases hs
        · cases hs
end
section
/-! THE PROGRAM: each method's code, resolved; which method has which number: 
0 Bench.<init>(LCase;)V
1 Bench.take(LCase;[I[II)V
2 Bench.decide(I)Z
3 Bench.hasBargain()Z
4 Bench.hear(I)V
5 Bench.setHours(II)V
6 Bench.hourOf(II)I
7 Bench.opnOffers()V
8 Bench.endAt(IIII)V
9 Bench.takeBack()V
10 Bench.freeFrom(I)I
11 Bench.hearAnswers()V
12 Bench.tryYeses()V
13 Bench.yesWhen(I)I
14 Bench.trySilence()V
15 Bench.isOffer(I)Z
16 Bench.isOpenAt(II)Z
17 Bench.bargainWord(I)I
18 Bench.boundHands()I
19 Bench.bearer(I)I
20 Bench.riskPasses()I
21 Bench.doings(I)I
22 Bench.forestalls(II)Z
23 Bench.mayAt(III)Z
24 Bench.mayUntil(II)I
25 Bench.mayFrom(III)I
26 Bench.mayTo(I)I
27 Case.<init>([II)V
28 Case.has(I)Z
29 Case.cell(II)I
30 Case.tellsLittle(I)Z
31 Case.wordOf(II)I
32 Case.withLost(I)LCase;
33 Case.withWire(I)LCase;
34 CaseReader.<init>(LTape;)V
35 CaseReader.readBehind(LCase;I)LCase;
36 CaseReader.readSaying(I)V
37 CaseReader.readOther(I)V
38 CaseReader.readSaid(II)V
39 CaseReader.fits(III)Z
40 CaseReader.readTerms(I)V
41 CaseReader.readBut(I)V
42 CaseReader.readWords(I)V
43 CaseReader.readTimes(I)V
44 CaseReader.readSpan(III)V
45 Court.<init>(LShelf;)V
46 Court.forget()V
47 Court.hourIn(LCase;III)I
48 Court.decides(III)Z
49 Court.seat(II)Z
50 Court.seatBoth(III)Z
51 Court.seatCase(LBench;LCase;II)Z
52 Court.learnGivens(LCase;I[II)V
53 Court.markNeeded(LCase;I)Z
54 Court.markGivens(LCase;)Z
55 Court.comboWithout(LBench;I)I
56 Court.countAll()V
57 Court.tallyBargain(I)V
58 Court.hangsOn()I
59 Court.turnsAnswer(II)Z
60 Court.countApart()I
61 Court.firstApart()I
62 Court.partsIn(I)Z
63 Court.leavesNothingToAsk(LCase;II)Z
64 LawReader.<init>(LTape;)V
65 LawReader.readAll(I)Z
66 LawReader.readRule()V
67 LawReader.readYes()V
68 Shelf.<init>()V
69 Shelf.caseAt(I)LCase;
70 Shelf.hasLaw(I)Z
71 Shelf.addCase(LCase;)I
72 Shelf.addLaw([I)I
73 Shelf.addClause([I)I
74 Shelf.layOver([I[I)V
75 Shelf.mixLaw([III)V
76 Shelf.allSayings()I
77 Shelf.becomeLike(LShelf;)V
78 Tape.<init>()V
79 Tape.put(I)V
80 Tape.holds(I)Z
81 Tape.begin(I)V
82 Tape.advance()V
83 Tape.sortOf(I)I
84 Tape.goesOn()Z
85 Tape.fail()V
86 Tape.pick(LString;)I
87 Tape.choose(LString;)I
88 Tape.take(LString;)Z
89 Tape.need(LString;)V
90 Tape.needSemicolon()V
91 Tape.value()I
92 Tape.number(II)I
93 CrossingWords.<init>()V
94 CrossingWords.feed(IIIII)I
95 CrossingWords.tell(I)I
96 CrossingWords.more(II)I
97 CrossingWords.law(I)I
98 CrossingWords.clause(I)I
99 CrossingWords.endReading()V
100 CrossingWords.fault()I
101 CrossingWords.saying(III)I
102 CrossingWords.isWordAsked(I)Z
103 CrossingWords.asked(II)I
104 CrossingWords.hour(IIII)I
105 CrossingWords.rule(II)I
106 CrossingWords.run(IIII)I
107 CrossingWords.opn(IIIII)I
108 CrossingWords.binds(III)I
109 CrossingWords.sure(III)I
110 CrossingWords.hang(II)I
111 CrossingWords.bears(IIII)I
112 CrossingWords.judge(IIIII)I
113 CrossingWords.apart(IIII)I
114 CrossingWords.part(II)I
115 CrossingWords.write(I)I
116 CrossingWords.does(IIII)I
117 CrossingWords.can(IIIII)I
118 CrossingWords.until(IIIII)I
119 CrossingWords.isHand(I)Z
120 CrossingWords.lost(III)I
121 CrossingWords.wired(III)I
122 CrossingWords.countChanged(LCase;II)I
123 CrossingWords.image()I
124 CrossingWords.back(I)Z
125 CrossingWords.count(I)I
126 CrossingWordsModel.<init>()V
127 CrossingWordsModel.within(III)Z
128 CrossingWordsModel.feed(IIIII)I
129 CrossingWordsModel.here()I
130 CrossingWordsModel.next()V
131 CrossingWordsModel.errs()V
132 CrossingWordsModel.is(J)Z
133 CrossingWordsModel.mustBe(J)V
134 CrossingWordsModel.numeral(II)I
135 CrossingWordsModel.ends()V
136 CrossingWordsModel.begins(I)V
137 CrossingWordsModel.handHere(I)I
138 CrossingWordsModel.wordHere()I
139 CrossingWordsModel.whatHere()I
140 CrossingWordsModel.wayHere()I
141 CrossingWordsModel.words(IZ)V
142 CrossingWordsModel.span(III)V
143 CrossingWordsModel.times(I)V
144 CrossingWordsModel.isOffer(I)Z
145 CrossingWordsModel.saidHere(IIII)I
146 CrossingWordsModel.readSaying(II)V
147 CrossingWordsModel.readSayings(II)I
148 CrossingWordsModel.tell(I)I
149 CrossingWordsModel.isCase(I)Z
150 CrossingWordsModel.isLaw(I)Z
151 CrossingWordsModel.more(II)I
152 CrossingWordsModel.whenHere()I
153 CrossingWordsModel.one(JJJ)I
154 CrossingWordsModel.readRule(I)V
155 CrossingWordsModel.readRules(I)Z
156 CrossingWordsModel.law(I)I
157 CrossingWordsModel.clause(I)I
158 CrossingWordsModel.fault()I
159 CrossingWordsModel.lays(II)V
160 CrossingWordsModel.rule(II)I
161 CrossingWordsModel.saying(III)I
162 CrossingWordsModel.bring(I)V
163 CrossingWordsModel.findAsked()V
164 CrossingWordsModel.isLooked()Z
165 CrossingWordsModel.hours(I)V
166 CrossingWordsModel.when(II)I
167 CrossingWordsModel.isSmall(I)Z
168 CrossingWordsModel.isOffering(I)Z
169 CrossingWordsModel.isNo(I)Z
170 CrossingWordsModel.isYes(I)Z
171 CrossingWordsModel.backHour(II)I
172 CrossingWordsModel.noHour(II)I
173 CrossingWordsModel.endsBy(III)V
174 CrossingWordsModel.findOffers()V
175 CrossingWordsModel.isOpenAt(II)Z
176 CrossingWordsModel.yesHour(I)I
177 CrossingWordsModel.isTakenBack(II)Z
178 CrossingWordsModel.offersTo(III)V
179 CrossingWordsModel.isAnswered(II)Z
180 CrossingWordsModel.findBargain()V
181 CrossingWordsModel.looks(I)V
182 CrossingWordsModel.wordOf(II)I
183 CrossingWordsModel.bargainWord(I)I
184 CrossingWordsModel.isSureNow()Z
185 CrossingWordsModel.takes(I)V
186 CrossingWordsModel.looksAt(III)Z
187 CrossingWordsModel.asked(II)I
188 CrossingWordsModel.bringPlain(I)V
189 CrossingWordsModel.hour(IIII)I
190 CrossingWordsModel.run(IIII)I
191 CrossingWordsModel.opn(IIIII)I
192 CrossingWordsModel.binds(III)I
193 CrossingWordsModel.sure(III)I
194 CrossingWordsModel.bitsOf(I)I
195 CrossingWordsModel.known(II)I
196 CrossingWordsModel.tells(I)Z
197 CrossingWordsModel.hang(II)I
198 CrossingWordsModel.bears(IIII)I
199 CrossingWordsModel.judge(IIIII)I
200 CrossingWordsModel.findApart(III)Z
201 CrossingWordsModel.apart(IIII)I
202 CrossingWordsModel.part(II)I
203 CrossingWordsModel.isWritten(II)Z
204 CrossingWordsModel.write(I)I
205 CrossingWordsModel.does(IIII)I
206 CrossingWordsModel.canAt(II)I
207 CrossingWordsModel.can(IIIII)I
208 CrossingWordsModel.until(IIIII)I
209 CrossingWordsModel.withBargain()I
210 CrossingWordsModel.isSaid(III)Z
211 CrossingWordsModel.lost(III)I
212 CrossingWordsModel.wired(III)I
213 CrossingWordsModel.copies(II)V
214 CrossingWordsModel.image()I
215 CrossingWordsModel.back(I)Z
216 CrossingWordsModel.sayingsInAll()I
217 CrossingWordsModel.count(I)I
218 Integer.bitCount(I)I
219 Arrays.rangeCheck(III)V
220 Arrays.fill([II)V
221 Arrays.fill([IIII)V
222 Arrays.copyOf([II)[I
-/
def av_q (i : Instr) : av_E := (i, 0, 0, 0, 0, 0)
def av_qa (i : Instr) (a : Nat) : av_E := (i, 0, a, 0, 0, 0)
def av_qf (i : Instr) (a b c : Nat) : av_E := (i, 0, a, b, c, 0)
def av_qc (i : Instr) (a b c : Nat) (k : Int) : av_E := (i, 0, a, b, c, k)
def av_qk (i : Instr) (k : Int) : av_E := (i, 0, 0, 0, 0, k)
def av_qs (i : Instr) (b : Nat) : av_E := (i, 0, 1, b, 0, 0)
def av_qw (i : Instr) (n : Nat) : av_E := (i, n, 0, 0, 0, 0)
def cd_0 : List (Nat × av_E) := [(0, av_q (.aload_n 0)), (1, av_qa (.invokespecial 3) 1000), (4, av_q (.aload_n 0)), (5, av_q (.bipush 36)), (7, av_q (.newarray .int)), (9, av_qf (.putfield 9) 0 0 2), (12, av_q (.aload_n 0)), (13, av_q (.bipush 12)), (15, av_q (.newarray .int)), (17, av_qf (.putfield 15) 0 1 2), (20, av_q (.aload_n 0)), (21, av_q (.bipush 12)), (23, av_q (.newarray .boolean)), (25, av_qf (.putfield 18) 0 2 2), (28, av_q (.aload_n 0)), (29, av_q (.bipush 12)), (31, av_q (.newarray .boolean)), (33, av_qf (.putfield 22) 0 3 2), (36, av_q (.aload_n 0)), (37, av_q (.bipush 12)), (39, av_q (.newarray .boolean)), (41, av_qf (.putfield 25) 0 4 2), (44, av_q (.aload_n 0)), (45, av_q (.bipush 12)), (47, av_q (.newarray .int)), (49, av_qf (.putfield 28) 0 5 2), (52, av_q (.aload_n 0)), (53, av_q (.bipush 12)), (55, av_q (.newarray .int)), (57, av_qf (.putfield 31) 0 6 2), (60, av_q (.aload_n 0)), (61, av_q (.bipush 12)), (63, av_q (.newarray .int)), (65, av_qf (.putfield 34) 0 7 2), (68, av_q (.aload_n 0)), (69, av_q (.bipush 12)), (71, av_q (.newarray .int)), (73, av_qf (.putfield 37) 0 8 2), (76, av_q (.aload_n 0)), (77, av_q (.bipush 12)), (79, av_q (.newarray .int)), (81, av_qf (.putfield 40) 0 9 2), (84, av_q (.aload_n 0)), (85, av_q (.bipush 12)), (87, av_q (.newarray .int)), (89, av_qf (.putfield 43) 0 10 2), (92, av_q (.aload_n 0)), (93, av_q (.bipush 14)), (95, av_q (.newarray .int)), (97, av_qf (.putfield 46) 0 11 2), (100, av_q (.aload_n 0)), (101, av_q (.iconst (-1))), (102, av_qf (.putfield 49) 0 13 0), (105, av_q (.aload_n 0)), (106, av_q (.iconst (-1))), (107, av_qf (.putfield 53) 0 14 0), (110, av_q (.aload_n 0)), (111, av_q (.sipush 9999)), (114, av_qf (.putfield 56) 0 15 0), (117, av_q (.aload_n 0)), (118, av_q (.aload_n 1)), (119, av_qf (.putfield 59) 0 12 2), (122, av_q (.return_))]
def cd_1 : List (Nat × av_E) := [(0, av_q (.aload_n 0)), (1, av_q (.aload_n 1)), (2, av_qf (.putfield 59) 0 12 2), (5, av_q (.aload_n 0)), (6, av_q (.aload_n 2)), (7, av_qf (.putfield 46) 0 11 2), (10, av_q (.aload_n 0)), (11, av_qf (.getfield 15) 0 1 2), (14, av_q (.iconst (-1))), (15, av_qc (.invokestatic 63) 220 2 2 10), (18, av_q (.iconst 0)), (19, av_q (.istore 5)), (21, av_q (.iload 5)), (23, av_q (.aload_n 0)), (24, av_qf (.getfield 59) 0 12 2), (27, av_qf (.getfield 69) 1 1 0), (30, av_qa (.if_icmp .ge 174) 204), (33, av_q (.aload_n 0)), (34, av_qf (.getfield 59) 0 12 2), (37, av_q (.iload 5)), (39, av_q (.iconst 0)), (40, av_qc (.invokevirtual 74) 29 2 0 1), (43, av_q (.istore 6)), (45, av_q (.iload 6)), (47, av_q (.iconst 3)), (48, av_qa (.if_icmp .ne 30) 78), (51, av_q (.aload_n 0)), (52, av_qf (.getfield 46) 0 11 2), (55, av_q (.bipush 9)), (57, av_q (.iaload)), (58, av_q (.iconst 1)), (59, av_qa (.if_icmp .ne 19) 78), (62, av_q (.aload_n 0)), (63, av_qf (.getfield 59) 0 12 2), (66, av_q (.iload 5)), (68, av_qc (.invokevirtual 78) 30 1 0 1), (71, av_qa (.ifCond .eq 7) 78), (74, av_q (.iconst 1)), (75, av_qa (.goto 4) 79), (78, av_q (.iconst 0)), (79, av_q (.istore 7)), (81, av_q (.aload_n 0)), (82, av_qf (.getfield 18) 0 2 2), (85, av_q (.iload 5)), (87, av_q (.iload 6)), (89, av_qa (.ifCond .eq 14) 103), (92, av_q (.iload 6)), (94, av_q (.iconst 3)), (95, av_qa (.if_icmp .ne 12) 107), (98, av_q (.iload 7)), (100, av_qa (.ifCond .ne 7) 107), (103, av_q (.iconst 1)), (104, av_qa (.goto 4) 108), (107, av_q (.iconst 0)), (108, av_q (.bastore)), (109, av_q (.aload_n 0)), (110, av_qf (.getfield 22) 0 3 2), (113, av_q (.iload 5)), (115, av_q (.iload 6)), (117, av_q (.iconst 2)), (118, av_qa (.if_icmp .eq 26) 144), (121, av_q (.iload 7)), (123, av_qa (.ifCond .ne 21) 144), (126, av_q (.iload 6)), (128, av_q (.bipush 6)), (130, av_qa (.if_icmp .ne 18) 148), (133, av_q (.aload_n 0)), (134, av_qf (.getfield 46) 0 11 2), (137, av_q (.bipush 11)), (139, av_q (.iaload)), (140, av_q (.iconst 1)), (141, av_qa (.if_icmp .ne 7) 148), (144, av_q (.iconst 1)), (145, av_qa (.goto 4) 149), (148, av_q (.iconst 0)), (149, av_q (.bastore)), (150, av_q (.aload_n 0)), (151, av_qf (.getfield 59) 0 12 2), (154, av_q (.iload 5)), (156, av_q (.bipush 6)), (158, av_qc (.invokevirtual 74) 29 2 0 1), (161, av_q (.istore 8)), (163, av_q (.aload_n 0)), (164, av_qf (.getfield 25) 0 4 2), (167, av_q (.iload 5)), (169, av_q (.iload 8)), (171, av_qa (.ifCond .lt 25) 196), (174, av_q (.iload 8)), (176, av_q (.bipush 16)), (178, av_qa (.if_icmp .ge 18) 196), (181, av_q (.aload_n 3)), (182, av_q (.iload 4)), (184, av_q (.iload 8)), (186, av_q (.iadd)), (187, av_q (.iaload)), (188, av_q (.iconst 2)), (189, av_qa (.if_icmp .eq 7) 196), (192, av_q (.iconst 1)), (193, av_qa (.goto 4) 197), (196, av_q (.iconst 0)), (197, av_q (.bastore)), (198, av_q (.iinc 5 1)), (201, av_qa (.goto (-180)) 21), (204, av_q (.return_))]
def cd_2 : List (Nat × av_E) := [(0, av_q (.aload_n 0)), (1, av_q (.iload_n 1)), (2, av_qc (.invokevirtual 84) 4 1 0 0), (5, av_q (.aload_n 0)), (6, av_qc (.invokevirtual 88) 7 0 0 0), (9, av_q (.aload_n 0)), (10, av_qc (.invokevirtual 91) 9 0 0 0), (13, av_q (.aload_n 0)), (14, av_qc (.invokevirtual 94) 11 0 0 0), (17, av_q (.aload_n 0)), (18, av_q (.iconst (-1))), (19, av_qf (.putfield 49) 0 13 0), (22, av_q (.aload_n 0)), (23, av_q (.iconst (-1))), (24, av_qf (.putfield 53) 0 14 0), (27, av_q (.aload_n 0)), (28, av_q (.sipush 9999)), (31, av_qf (.putfield 56) 0 15 0), (34, av_q (.aload_n 0)), (35, av_qc (.invokevirtual 97) 12 0 0 0), (38, av_q (.aload_n 0)), (39, av_qf (.getfield 46) 0 11 2), (42, av_q (.bipush 8)), (44, av_q (.iaload)), (45, av_q (.iconst (-1))), (46, av_qa (.if_icmp .eq 7) 53), (49, av_q (.aload_n 0)), (50, av_qc (.invokevirtual 100) 14 0 0 0), (53, av_q (.aload_n 0)), (54, av_qf (.getfield 56) 0 15 0), (57, av_q (.sipush 9999)), (60, av_qa (.if_icmp .eq 7) 67), (63, av_q (.iconst 1)), (64, av_qa (.goto 4) 68), (67, av_q (.iconst 0)), (68, av_qa (.ireturn) 1)]
def cd_3 : List (Nat × av_E) := [(0, av_q (.aload_n 0)), (1, av_qf (.getfield 56) 0 15 0), (4, av_q (.sipush 9999)), (7, av_qa (.if_icmp .eq 7) 14), (10, av_q (.iconst 1)), (11, av_qa (.goto 4) 15), (14, av_q (.iconst 0)), (15, av_qa (.ireturn) 1)]
def cd_4 : List (Nat × av_E) := [(0, av_q (.iload_n 1)), (1, av_q (.istore_n 2)), (2, av_q (.iconst 0)), (3, av_q (.istore_n 3)), (4, av_q (.iload_n 3)), (5, av_q (.aload_n 0)), (6, av_qf (.getfield 59) 0 12 2), (9, av_qf (.getfield 69) 1 1 0), (12, av_qa (.if_icmp .ge 67) 79), (15, av_q (.aload_n 0)), (16, av_qf (.getfield 59) 0 12 2), (19, av_qf (.getfield 103) 1 0 2), (22, av_q (.iload_n 3)), (23, av_q (.bipush 21)), (25, av_q (.imul)), (26, av_q (.bipush 20)), (28, av_q (.iadd)), (29, av_q (.iaload)), (30, av_q (.iconst 1)), (31, av_qa (.invokestatic 106) 1001), (34, av_q (.istore 4)), (36, av_q (.iload_n 2)), (37, av_q (.iload 4)), (39, av_q (.irem)), (40, av_q (.istore 5)), (42, av_q (.iload_n 2)), (43, av_q (.iload 4)), (45, av_q (.idiv)), (46, av_q (.istore_n 2)), (47, av_q (.iload 5)), (49, av_q (.aload_n 0)), (50, av_qf (.getfield 15) 0 1 2), (53, av_q (.iload_n 3)), (54, av_q (.iaload)), (55, av_qa (.if_icmp .eq 18) 73), (58, av_q (.aload_n 0)), (59, av_qf (.getfield 15) 0 1 2), (62, av_q (.iload_n 3)), (63, av_q (.iload 5)), (65, av_q (.iastore)), (66, av_q (.aload_n 0)), (67, av_q (.iload_n 3)), (68, av_q (.iload 5)), (70, av_qc (.invokevirtual 111) 5 2 0 0), (73, av_q (.iinc 3 1)), (76, av_qa (.goto (-72)) 4), (79, av_q (.return_))]
def cd_5 : List (Nat × av_E) := [(0, av_q (.iload_n 1)), (1, av_q (.bipush 21)), (3, av_q (.imul)), (4, av_q (.istore_n 3)), (5, av_q (.iload_n 2)), (6, av_q (.istore 4)), (8, av_q (.iconst 0)), (9, av_q (.istore 5)), (11, av_q (.iconst 0)), (12, av_q (.istore 6)), (14, av_q (.iload 6)), (16, av_q (.iconst 3)), (17, av_qa (.if_icmp .ge 82) 99), (20, av_q (.aload_n 0)), (21, av_qf (.getfield 59) 0 12 2), (24, av_qf (.getfield 103) 1 0 2), (27, av_q (.iload_n 3)), (28, av_q (.bipush 15)), (30, av_q (.iadd)), (31, av_q (.iload 6)), (33, av_q (.iadd)), (34, av_q (.iaload)), (35, av_q (.istore 7)), (37, av_q (.iload 5)), (39, av_q (.aload_n 0)), (40, av_qf (.getfield 59) 0 12 2), (43, av_qf (.getfield 103) 1 0 2), (46, av_q (.iload_n 3)), (47, av_q (.bipush 7)), (49, av_q (.iadd)), (50, av_q (.iload 6)), (52, av_q (.iadd)), (53, av_q (.iaload)), (54, av_q (.iadd)), (55, av_q (.istore 5)), (57, av_q (.iload 7)), (59, av_qa (.ifCond .le 20) 79), (62, av_q (.iload 5)), (64, av_q (.iload 4)), (66, av_q (.iload 7)), (68, av_q (.irem)), (69, av_q (.iadd)), (70, av_q (.istore 5)), (72, av_q (.iload 4)), (74, av_q (.iload 7)), (76, av_q (.idiv)), (77, av_q (.istore 4)), (79, av_q (.aload_n 0)), (80, av_qf (.getfield 9) 0 0 2), (83, av_q (.iload 6)), (85, av_q (.bipush 12)), (87, av_q (.imul)), (88, av_q (.iload_n 1)), (89, av_q (.iadd)), (90, av_q (.iload 5)), (92, av_q (.iastore)), (93, av_q (.iinc 6 1)), (96, av_qa (.goto (-82)) 14), (99, av_q (.aload_n 0)), (100, av_qf (.getfield 59) 0 12 2), (103, av_qf (.getfield 103) 1 0 2), (106, av_q (.iload_n 3)), (107, av_q (.bipush 19)), (109, av_q (.iadd)), (110, av_q (.iaload)), (111, av_q (.iconst 1)), (112, av_qa (.if_icmp .eq 9) 121), (115, av_q (.iload 4)), (117, av_q (.iconst 1)), (118, av_qa (.if_icmp .ne 23) 141), (121, av_q (.aload_n 0)), (122, av_qf (.getfield 9) 0 0 2), (125, av_q (.bipush 12)), (127, av_q (.iload_n 1)), (128, av_q (.iadd)), (129, av_q (.iconst (-1))), (130, av_q (.iastore)), (131, av_q (.aload_n 0)), (132, av_qf (.getfield 9) 0 0 2), (135, av_q (.bipush 24)), (137, av_q (.iload_n 1)), (138, av_q (.iadd)), (139, av_q (.iconst (-1))), (140, av_q (.iastore)), (141, av_q (.return_))]
def cd_6 : List (Nat × av_E) := [(0, av_q (.iload_n 1)), (1, av_qa (.ifCond .lt 18) 19), (4, av_q (.iload_n 1)), (5, av_q (.bipush 12)), (7, av_qa (.if_icmp .ge 12) 19), (10, av_q (.iload_n 2)), (11, av_qa (.ifCond .lt 8) 19), (14, av_q (.iload_n 2)), (15, av_q (.iconst 2)), (16, av_qa (.if_icmp .le 5) 21), (19, av_q (.iconst (-1))), (20, av_q (.ireturn)), (21, av_q (.aload_n 0)), (22, av_qf (.getfield 9) 0 0 2), (25, av_q (.iload_n 2)), (26, av_q (.bipush 12)), (28, av_q (.imul)), (29, av_q (.iload_n 1)), (30, av_q (.iadd)), (31, av_q (.iaload)), (32, av_q (.ireturn))]
def cd_7 : List (Nat × av_E) := [(0, av_q (.iconst 0)), (1, av_q (.istore_n 1)), (2, av_q (.iload_n 1)), (3, av_q (.aload_n 0)), (4, av_qf (.getfield 59) 0 12 2), (7, av_qf (.getfield 69) 1 1 0), (10, av_qa (.if_icmp .ge 163) 173), (13, av_q (.aload_n 0)), (14, av_qf (.getfield 40) 0 9 2), (17, av_q (.iload_n 1)), (18, av_q (.sipush 9999)), (21, av_q (.iastore)), (22, av_q (.aload_n 0)), (23, av_qf (.getfield 43) 0 10 2), (26, av_q (.iload_n 1)), (27, av_q (.sipush 9999)), (30, av_q (.iastore)), (31, av_q (.aload_n 0)), (32, av_qf (.getfield 31) 0 6 2), (35, av_q (.iload_n 1)), (36, av_q (.sipush 9999)), (39, av_q (.iastore)), (40, av_q (.aload_n 0)), (41, av_qf (.getfield 34) 0 7 2), (44, av_q (.iload_n 1)), (45, av_q (.iconst 0)), (46, av_q (.iastore)), (47, av_q (.aload_n 0)), (48, av_qf (.getfield 37) 0 8 2), (51, av_q (.iload_n 1)), (52, av_q (.iconst (-1))), (53, av_q (.iastore)), (54, av_q (.aload_n 0)), (55, av_qf (.getfield 28) 0 5 2), (58, av_q (.iload_n 1)), (59, av_q (.aload_n 0)), (60, av_qf (.getfield 18) 0 2 2), (63, av_q (.iload_n 1)), (64, av_q (.baload)), (65, av_qa (.ifCond .eq 26) 91), (68, av_q (.aload_n 0)), (69, av_qf (.getfield 25) 0 4 2), (72, av_q (.iload_n 1)), (73, av_q (.baload)), (74, av_qa (.ifCond .ne 17) 91), (77, av_q (.aload_n 0)), (78, av_q (.iload_n 1)), (79, av_q (.aload_n 0)), (80, av_qf (.getfield 46) 0 11 2), (83, av_q (.iconst 3)), (84, av_q (.iaload)), (85, av_qc (.invokevirtual 115) 6 2 0 0), (88, av_qa (.goto 4) 92), (91, av_q (.iconst (-1))), (92, av_q (.iastore)), (93, av_q (.aload_n 0)), (94, av_qf (.getfield 59) 0 12 2), (97, av_qf (.getfield 103) 1 0 2), (100, av_q (.iload_n 1)), (101, av_q (.bipush 21)), (103, av_q (.imul)), (104, av_q (.iconst 5)), (105, av_q (.iadd)), (106, av_q (.iaload)), (107, av_q (.istore_n 2)), (108, av_q (.aload_n 0)), (109, av_q (.iload_n 1)), (110, av_q (.iconst 1)), (111, av_qc (.invokevirtual 115) 6 2 0 0), (114, av_q (.istore_n 3)), (115, av_q (.iload_n 2)), (116, av_q (.iconst (-1))), (117, av_qa (.if_icmp .eq 16) 133), (120, av_q (.aload_n 0)), (121, av_q (.iload_n 1)), (122, av_q (.iload_n 2)), (123, av_q (.iconst 1)), (124, av_q (.iadd)), (125, av_q (.iconst 3)), (126, av_q (.iconst (-1))), (127, av_qc (.invokevirtual 118) 8 4 0 0), (130, av_qa (.goto 37) 167), (133, av_q (.aload_n 0)), (134, av_qf (.getfield 46) 0 11 2), (137, av_q (.bipush 7)), (139, av_q (.iaload)), (140, av_q (.iconst (-1))), (141, av_qa (.if_icmp .eq 26) 167), (144, av_q (.iload_n 3)), (145, av_q (.iconst (-1))), (146, av_qa (.if_icmp .eq 21) 167), (149, av_q (.aload_n 0)), (150, av_q (.iload_n 1)), (151, av_q (.iload_n 3)), (152, av_q (.aload_n 0)), (153, av_qf (.getfield 46) 0 11 2), (156, av_q (.bipush 7)), (158, av_q (.iaload)), (159, av_q (.iadd)), (160, av_q (.iconst 1)), (161, av_q (.iadd)), (162, av_q (.iconst 4)), (163, av_q (.iconst (-1))), (164, av_qc (.invokevirtual 118) 8 4 0 0), (167, av_q (.iinc 1 1)), (170, av_qa (.goto (-168)) 2), (173, av_q (.return_))]
def cd_8 : List (Nat × av_E) := [(0, av_q (.aload_n 0)), (1, av_qf (.getfield 18) 0 2 2), (4, av_q (.iload_n 1)), (5, av_q (.baload)), (6, av_qa (.ifCond .eq 60) 66), (9, av_q (.iload_n 2)), (10, av_q (.iconst (-1))), (11, av_qa (.if_icmp .eq 55) 66), (14, av_q (.iload_n 2)), (15, av_q (.aload_n 0)), (16, av_qf (.getfield 31) 0 6 2), (19, av_q (.iload_n 1)), (20, av_q (.iaload)), (21, av_qa (.if_icmp .lt 23) 44), (24, av_q (.iload_n 2)), (25, av_q (.aload_n 0)), (26, av_qf (.getfield 31) 0 6 2), (29, av_q (.iload_n 1)), (30, av_q (.iaload)), (31, av_qa (.if_icmp .ne 35) 66), (34, av_q (.iload_n 3)), (35, av_q (.aload_n 0)), (36, av_qf (.getfield 34) 0 7 2), (39, av_q (.iload_n 1)), (40, av_q (.iaload)), (41, av_qa (.if_icmp .ge 25) 66), (44, av_q (.aload_n 0)), (45, av_qf (.getfield 31) 0 6 2), (48, av_q (.iload_n 1)), (49, av_q (.iload_n 2)), (50, av_q (.iastore)), (51, av_q (.aload_n 0)), (52, av_qf (.getfield 34) 0 7 2), (55, av_q (.iload_n 1)), (56, av_q (.iload_n 3)), (57, av_q (.iastore)), (58, av_q (.aload_n 0)), (59, av_qf (.getfield 37) 0 8 2), (62, av_q (.iload_n 1)), (63, av_q (.iload 4)), (65, av_q (.iastore)), (66, av_q (.return_))]
def cd_9 : List (Nat × av_E) := [(0, av_q (.iconst 0)), (1, av_q (.istore_n 1)), (2, av_q (.iload_n 1)), (3, av_q (.aload_n 0)), (4, av_qf (.getfield 59) 0 12 2), (7, av_qf (.getfield 69) 1 1 0), (10, av_qa (.if_icmp .ge 126) 136), (13, av_q (.aload_n 0)), (14, av_qf (.getfield 59) 0 12 2), (17, av_qf (.getfield 103) 1 0 2), (20, av_q (.iload_n 1)), (21, av_q (.bipush 21)), (23, av_q (.imul)), (24, av_q (.iconst 3)), (25, av_q (.iadd)), (26, av_q (.iaload)), (27, av_q (.istore_n 2)), (28, av_q (.aload_n 0)), (29, av_qf (.getfield 59) 0 12 2), (32, av_qf (.getfield 103) 1 0 2), (35, av_q (.iload_n 1)), (36, av_q (.bipush 21)), (38, av_q (.imul)), (39, av_q (.iconst 0)), (40, av_q (.iadd)), (41, av_q (.iaload)), (42, av_q (.iconst 5)), (43, av_qa (.if_icmp .ne 16) 59), (46, av_q (.iload_n 2)), (47, av_qa (.ifCond .lt 12) 59), (50, av_q (.iload_n 2)), (51, av_q (.iload_n 1)), (52, av_qa (.if_icmp .ge 7) 59), (55, av_q (.iconst 1)), (56, av_qa (.goto 4) 60), (59, av_q (.iconst 0)), (60, av_q (.istore_n 3)), (61, av_q (.iload_n 3)), (62, av_qa (.ifCond .eq 17) 79), (65, av_q (.aload_n 0)), (66, av_q (.iload_n 1)), (67, av_q (.aload_n 0)), (68, av_qf (.getfield 46) 0 11 2), (71, av_q (.iconst 4)), (72, av_q (.iaload)), (73, av_qc (.invokevirtual 115) 6 2 0 0), (76, av_qa (.goto 4) 80), (79, av_q (.iconst (-1))), (80, av_q (.istore 4)), (82, av_q (.iload 4)), (84, av_q (.iconst (-1))), (85, av_qa (.if_icmp .eq 20) 105), (88, av_q (.aload_n 0)), (89, av_qf (.getfield 40) 0 9 2), (92, av_q (.iload_n 2)), (93, av_q (.aload_n 0)), (94, av_qf (.getfield 40) 0 9 2), (97, av_q (.iload_n 2)), (98, av_q (.iaload)), (99, av_q (.iload 4)), (101, av_qa (.invokestatic 122) 1002), (104, av_q (.iastore)), (105, av_q (.iload 4)), (107, av_q (.iconst (-1))), (108, av_qa (.if_icmp .eq 22) 130), (111, av_q (.iload 4)), (113, av_q (.aload_n 0)), (114, av_q (.iload_n 2)), (115, av_qc (.invokevirtual 125) 10 1 0 0), (118, av_qa (.if_icmp .lt 12) 130), (121, av_q (.aload_n 0)), (122, av_q (.iload_n 2)), (123, av_q (.iload 4)), (125, av_q (.iconst 1)), (126, av_q (.iload_n 1)), (127, av_qc (.invokevirtual 118) 8 4 0 0), (130, av_q (.iinc 1 1)), (133, av_qa (.goto (-131)) 2), (136, av_q (.return_))]
def cd_10 : List (Nat × av_E) := [(0, av_q (.aload_n 0)), (1, av_qf (.getfield 59) 0 12 2), (4, av_qf (.getfield 103) 1 0 2), (7, av_q (.iload_n 1)), (8, av_q (.bipush 21)), (10, av_q (.imul)), (11, av_q (.iconst 5)), (12, av_q (.iadd)), (13, av_q (.iaload)), (14, av_q (.istore_n 2)), (15, av_q (.iload_n 2)), (16, av_q (.iconst (-1))), (17, av_qa (.if_icmp .eq 20) 37), (20, av_q (.aload_n 0)), (21, av_qf (.getfield 46) 0 11 2), (24, av_q (.bipush 6)), (26, av_q (.iaload)), (27, av_q (.iconst 1)), (28, av_qa (.if_icmp .ne 9) 37), (31, av_q (.iload_n 2)), (32, av_q (.iconst 1)), (33, av_q (.iadd)), (34, av_qa (.goto 4) 38), (37, av_q (.iconst 0)), (38, av_q (.ireturn))]
def cd_11 : List (Nat × av_E) := [(0, av_q (.iconst 0)), (1, av_q (.istore_n 1)), (2, av_q (.iload_n 1)), (3, av_q (.aload_n 0)), (4, av_qf (.getfield 59) 0 12 2), (7, av_qf (.getfield 69) 1 1 0), (10, av_qa (.if_icmp .ge 112) 122), (13, av_q (.aload_n 0)), (14, av_qf (.getfield 59) 0 12 2), (17, av_qf (.getfield 103) 1 0 2), (20, av_q (.iload_n 1)), (21, av_q (.bipush 21)), (23, av_q (.imul)), (24, av_q (.iconst 0)), (25, av_q (.iadd)), (26, av_q (.iaload)), (27, av_q (.istore_n 2)), (28, av_q (.aload_n 0)), (29, av_qf (.getfield 59) 0 12 2), (32, av_qf (.getfield 103) 1 0 2), (35, av_q (.iload_n 1)), (36, av_q (.bipush 21)), (38, av_q (.imul)), (39, av_q (.iconst 3)), (40, av_q (.iadd)), (41, av_q (.iaload)), (42, av_q (.istore_n 3)), (43, av_q (.iload_n 3)), (44, av_qa (.ifCond .lt 72) 116), (47, av_q (.iload_n 3)), (48, av_q (.iload_n 1)), (49, av_qa (.if_icmp .ge 67) 116), (52, av_q (.iload_n 2)), (53, av_q (.iconst 5)), (54, av_qa (.if_icmp .eq 62) 116), (57, av_q (.iload_n 2)), (58, av_q (.bipush 7)), (60, av_qa (.if_icmp .eq 56) 116), (63, av_q (.aload_n 0)), (64, av_qf (.getfield 43) 0 10 2), (67, av_q (.iload_n 3)), (68, av_q (.aload_n 0)), (69, av_qf (.getfield 43) 0 10 2), (72, av_q (.iload_n 3)), (73, av_q (.iaload)), (74, av_q (.aload_n 0)), (75, av_q (.iload_n 1)), (76, av_q (.iconst 0)), (77, av_qc (.invokevirtual 115) 6 2 0 0), (80, av_qa (.invokestatic 122) 1002), (83, av_q (.iastore)), (84, av_q (.iload_n 2)), (85, av_q (.iconst 4)), (86, av_qa (.if_icmp .eq 12) 98), (89, av_q (.aload_n 0)), (90, av_qf (.getfield 18) 0 2 2), (93, av_q (.iload_n 1)), (94, av_q (.baload)), (95, av_qa (.ifCond .eq 21) 116), (98, av_q (.aload_n 0)), (99, av_q (.iload_n 3)), (100, av_q (.aload_n 0)), (101, av_q (.iload_n 1)), (102, av_q (.aload_n 0)), (103, av_qf (.getfield 46) 0 11 2), (106, av_q (.iconst 5)), (107, av_q (.iaload)), (108, av_qc (.invokevirtual 115) 6 2 0 0), (111, av_q (.iconst 2)), (112, av_q (.iload_n 1)), (113, av_qc (.invokevirtual 118) 8 4 0 0), (116, av_q (.iinc 1 1)), (119, av_qa (.goto (-117)) 2), (122, av_q (.return_))]
def cd_12 : List (Nat × av_E) := [(0, av_q (.iconst 0)), (1, av_q (.istore_n 1)), (2, av_q (.iload_n 1)), (3, av_q (.aload_n 0)), (4, av_qf (.getfield 59) 0 12 2), (7, av_qf (.getfield 69) 1 1 0), (10, av_qa (.if_icmp .ge 141) 151), (13, av_q (.aload_n 0)), (14, av_qf (.getfield 59) 0 12 2), (17, av_qf (.getfield 103) 1 0 2), (20, av_q (.iload_n 1)), (21, av_q (.bipush 21)), (23, av_q (.imul)), (24, av_q (.iconst 3)), (25, av_q (.iadd)), (26, av_q (.iaload)), (27, av_q (.istore_n 2)), (28, av_q (.aload_n 0)), (29, av_qf (.getfield 22) 0 3 2), (32, av_q (.iload_n 1)), (33, av_q (.baload)), (34, av_qa (.ifCond .eq 111) 145), (37, av_q (.iload_n 2)), (38, av_qa (.ifCond .lt 107) 145), (41, av_q (.iload_n 2)), (42, av_q (.iload_n 1)), (43, av_qa (.if_icmp .ge 102) 145), (46, av_q (.aload_n 0)), (47, av_qf (.getfield 18) 0 2 2), (50, av_q (.iload_n 2)), (51, av_q (.baload)), (52, av_qa (.ifCond .eq 93) 145), (55, av_q (.aload_n 0)), (56, av_q (.iload_n 1)), (57, av_q (.aload_n 0)), (58, av_q (.iload_n 1)), (59, av_qc (.invokevirtual 129) 13 1 0 0), (62, av_qc (.invokevirtual 115) 6 2 0 0), (65, av_q (.istore_n 3)), (66, av_q (.aload_n 0)), (67, av_q (.iload_n 2)), (68, av_q (.iconst 1)), (69, av_qc (.invokevirtual 115) 6 2 0 0), (72, av_q (.istore 4)), (74, av_q (.iload 4)), (76, av_q (.iconst (-1))), (77, av_qa (.if_icmp .eq 18) 95), (80, av_q (.iload 4)), (82, av_q (.aload_n 0)), (83, av_q (.iload_n 1)), (84, av_q (.iconst 0)), (85, av_qc (.invokevirtual 115) 6 2 0 0), (88, av_qa (.if_icmp .gt 7) 95), (91, av_q (.iconst 1)), (92, av_qa (.goto 4) 96), (95, av_q (.iconst 0)), (96, av_q (.istore 5)), (98, av_q (.iload_n 3)), (99, av_q (.aload_n 0)), (100, av_qf (.getfield 56) 0 15 0), (103, av_qa (.if_icmp .ge 42) 145), (106, av_q (.iload 5)), (108, av_qa (.ifCond .eq 37) 145), (111, av_q (.aload_n 0)), (112, av_qf (.getfield 40) 0 9 2), (115, av_q (.iload_n 1)), (116, av_q (.iaload)), (117, av_q (.iload_n 3)), (118, av_qa (.if_icmp .lt 27) 145), (121, av_q (.aload_n 0)), (122, av_q (.iload_n 2)), (123, av_q (.iload_n 3)), (124, av_qc (.invokevirtual 132) 16 2 0 0), (127, av_qa (.ifCond .eq 18) 145), (130, av_q (.aload_n 0)), (131, av_q (.iload_n 1)), (132, av_qf (.putfield 49) 0 13 0), (135, av_q (.aload_n 0)), (136, av_q (.iload_n 2)), (137, av_qf (.putfield 53) 0 14 0), (140, av_q (.aload_n 0)), (141, av_q (.iload_n 3)), (142, av_qf (.putfield 56) 0 15 0), (145, av_q (.iinc 1 1)), (148, av_qa (.goto (-146)) 2), (151, av_q (.return_))]
def cd_13 : List (Nat × av_E) := [(0, av_q (.aload_n 0)), (1, av_qf (.getfield 59) 0 12 2), (4, av_qf (.getfield 103) 1 0 2), (7, av_q (.iload_n 1)), (8, av_q (.bipush 21)), (10, av_q (.imul)), (11, av_q (.iconst 0)), (12, av_q (.iadd)), (13, av_q (.iaload)), (14, av_q (.bipush 6)), (16, av_qa (.if_icmp .ne 5) 21), (19, av_q (.iconst 0)), (20, av_q (.ireturn)), (21, av_q (.aload_n 0)), (22, av_qf (.getfield 59) 0 12 2), (25, av_qf (.getfield 103) 1 0 2), (28, av_q (.iload_n 1)), (29, av_q (.bipush 21)), (31, av_q (.imul)), (32, av_q (.iconst 4)), (33, av_q (.iadd)), (34, av_q (.iaload)), (35, av_q (.istore_n 2)), (36, av_q (.iload_n 2)), (37, av_qa (.ifCond .lt 8) 45), (40, av_q (.iload_n 2)), (41, av_q (.iconst 2)), (42, av_qa (.if_icmp .le 12) 54), (45, av_q (.aload_n 0)), (46, av_qf (.getfield 46) 0 11 2), (49, av_q (.iconst 2)), (50, av_q (.iaload)), (51, av_qa (.goto 9) 60), (54, av_q (.aload_n 0)), (55, av_qf (.getfield 46) 0 11 2), (58, av_q (.iload_n 2)), (59, av_q (.iaload)), (60, av_q (.ireturn))]
def cd_14 : List (Nat × av_E) := [(0, av_q (.iconst 0)), (1, av_q (.istore_n 1)), (2, av_q (.iload_n 1)), (3, av_q (.aload_n 0)), (4, av_qf (.getfield 59) 0 12 2), (7, av_qf (.getfield 69) 1 1 0), (10, av_qa (.if_icmp .ge 82) 92), (13, av_q (.aload_n 0)), (14, av_q (.iload_n 1)), (15, av_q (.iconst 2)), (16, av_qc (.invokevirtual 115) 6 2 0 0), (19, av_q (.istore_n 2)), (20, av_q (.iload_n 2)), (21, av_q (.aload_n 0)), (22, av_qf (.getfield 46) 0 11 2), (25, av_q (.bipush 8)), (27, av_q (.iaload)), (28, av_q (.iadd)), (29, av_q (.istore_n 3)), (30, av_q (.aload_n 0)), (31, av_qf (.getfield 18) 0 2 2), (34, av_q (.iload_n 1)), (35, av_q (.baload)), (36, av_qa (.ifCond .eq 50) 86), (39, av_q (.iload_n 2)), (40, av_q (.iconst (-1))), (41, av_qa (.if_icmp .eq 45) 86), (44, av_q (.iload_n 3)), (45, av_q (.aload_n 0)), (46, av_qf (.getfield 56) 0 15 0), (49, av_qa (.if_icmp .ge 37) 86), (52, av_q (.aload_n 0)), (53, av_qf (.getfield 43) 0 10 2), (56, av_q (.iload_n 1)), (57, av_q (.iaload)), (58, av_q (.iload_n 3)), (59, av_qa (.if_icmp .le 27) 86), (62, av_q (.aload_n 0)), (63, av_q (.iload_n 1)), (64, av_q (.iload_n 3)), (65, av_qc (.invokevirtual 132) 16 2 0 0), (68, av_qa (.ifCond .eq 18) 86), (71, av_q (.aload_n 0)), (72, av_q (.iconst (-1))), (73, av_qf (.putfield 49) 0 13 0), (76, av_q (.aload_n 0)), (77, av_q (.iload_n 1)), (78, av_qf (.putfield 53) 0 14 0), (81, av_q (.aload_n 0)), (82, av_q (.iload_n 3)), (83, av_qf (.putfield 56) 0 15 0), (86, av_q (.iinc 1 1)), (89, av_qa (.goto (-87)) 2), (92, av_q (.return_))]
def cd_15 : List (Nat × av_E) := [(0, av_q (.aload_n 0)), (1, av_qf (.getfield 59) 0 12 2), (4, av_q (.iload_n 1)), (5, av_qc (.invokevirtual 136) 28 1 0 1), (8, av_qa (.ifCond .eq 16) 24), (11, av_q (.aload_n 0)), (12, av_qf (.getfield 18) 0 2 2), (15, av_q (.iload_n 1)), (16, av_q (.baload)), (17, av_qa (.ifCond .eq 7) 24), (20, av_q (.iconst 1)), (21, av_qa (.goto 4) 25), (24, av_q (.iconst 0)), (25, av_qa (.ireturn) 1)]
def cd_16 : List (Nat × av_E) := [(0, av_q (.iload_n 2)), (1, av_q (.iconst (-1))), (2, av_qa (.if_icmp .eq 37) 39), (5, av_q (.aload_n 0)), (6, av_qf (.getfield 28) 0 5 2), (9, av_q (.iload_n 1)), (10, av_q (.iaload)), (11, av_q (.iconst (-1))), (12, av_qa (.if_icmp .eq 27) 39), (15, av_q (.iload_n 2)), (16, av_q (.aload_n 0)), (17, av_qf (.getfield 28) 0 5 2), (20, av_q (.iload_n 1)), (21, av_q (.iaload)), (22, av_qa (.if_icmp .lt 17) 39), (25, av_q (.iload_n 2)), (26, av_q (.aload_n 0)), (27, av_qf (.getfield 31) 0 6 2), (30, av_q (.iload_n 1)), (31, av_q (.iaload)), (32, av_qa (.if_icmp .ge 7) 39), (35, av_q (.iconst 1)), (36, av_qa (.goto 4) 40), (39, av_q (.iconst 0)), (40, av_qa (.ireturn) 1)]
def cd_17 : List (Nat × av_E) := [(0, av_q (.aload_n 0)), (1, av_qf (.getfield 59) 0 12 2), (4, av_q (.aload_n 0)), (5, av_qf (.getfield 49) 0 13 0), (8, av_q (.iconst 0)), (9, av_qc (.invokevirtual 74) 29 2 0 1), (12, av_q (.iconst 3)), (13, av_qa (.if_icmp .ne 7) 20), (16, av_q (.iconst 1)), (17, av_qa (.goto 4) 21), (20, av_q (.iconst 0)), (21, av_q (.istore_n 2)), (22, av_q (.iload_n 2)), (23, av_qa (.ifCond .eq 21) 44), (26, av_q (.aload_n 0)), (27, av_qf (.getfield 59) 0 12 2), (30, av_q (.aload_n 0)), (31, av_qf (.getfield 49) 0 13 0), (34, av_q (.bipush 10)), (36, av_q (.iload_n 1)), (37, av_q (.iadd)), (38, av_qc (.invokevirtual 74) 29 2 0 1), (41, av_qa (.goto 4) 45), (44, av_q (.iconst (-1))), (45, av_q (.istore_n 3)), (46, av_q (.iload_n 3)), (47, av_q (.iconst (-1))), (48, av_qa (.if_icmp .eq 16) 64), (51, av_q (.aload_n 0)), (52, av_qf (.getfield 46) 0 11 2), (55, av_q (.bipush 10)), (57, av_q (.iaload)), (58, av_q (.iconst 1)), (59, av_qa (.if_icmp .ne 5) 64), (62, av_q (.iload_n 3)), (63, av_q (.ireturn)), (64, av_q (.iload_n 3)), (65, av_q (.iconst (-1))), (66, av_qa (.if_icmp .eq 18) 84), (69, av_q (.aload_n 0)), (70, av_qf (.getfield 46) 0 11 2), (73, av_q (.bipush 10)), (75, av_q (.iaload)), (76, av_q (.iconst 2)), (77, av_qa (.if_icmp .ne 7) 84), (80, av_q (.iconst (-1))), (81, av_qa (.goto 15) 96), (84, av_q (.aload_n 0)), (85, av_qf (.getfield 59) 0 12 2), (88, av_q (.aload_n 0)), (89, av_qf (.getfield 53) 0 14 0), (92, av_q (.iload_n 1)), (93, av_qc (.invokevirtual 139) 31 2 0 1), (96, av_q (.ireturn))]
def cd_18 : List (Nat × av_E) := [(0, av_q (.aload_n 0)), (1, av_qf (.getfield 59) 0 12 2), (4, av_q (.aload_n 0)), (5, av_qf (.getfield 53) 0 14 0), (8, av_q (.iconst 1)), (9, av_qc (.invokevirtual 74) 29 2 0 1), (12, av_q (.istore_n 1)), (13, av_q (.aload_n 0)), (14, av_qf (.getfield 59) 0 12 2), (17, av_q (.aload_n 0)), (18, av_qf (.getfield 53) 0 14 0), (21, av_q (.iconst 2)), (22, av_qc (.invokevirtual 74) 29 2 0 1), (25, av_q (.istore_n 2)), (26, av_q (.iload_n 1)), (27, av_qa (.ifCond .lt 7) 34), (30, av_q (.iload_n 2)), (31, av_qa (.ifCond .ge 7) 38), (34, av_q (.iconst 0)), (35, av_qa (.goto 10) 45), (38, av_q (.iconst 1)), (39, av_q (.iload_n 1)), (40, av_q (.ishl)), (41, av_q (.iconst 1)), (42, av_q (.iload_n 2)), (43, av_q (.ishl)), (44, av_q (.ior)), (45, av_q (.ireturn))]
def cd_19 : List (Nat × av_E) := [(0, av_q (.aload_n 0)), (1, av_qc (.invokevirtual 142) 3 0 0 0), (4, av_qa (.ifCond .ne 5) 9), (7, av_q (.iconst (-1))), (8, av_q (.ireturn)), (9, av_q (.aload_n 0)), (10, av_qc (.invokevirtual 146) 20 0 0 0), (13, av_q (.istore_n 2)), (14, av_q (.iload_n 2)), (15, av_q (.sipush 9999)), (18, av_qa (.if_icmp .eq 19) 37), (21, av_q (.iload_n 1)), (22, av_q (.iload_n 2)), (23, av_q (.aload_n 0)), (24, av_qf (.getfield 56) 0 15 0), (27, av_qa (.invokestatic 106) 1001), (30, av_qa (.if_icmp .lt 7) 37), (33, av_q (.iconst 1)), (34, av_qa (.goto 4) 38), (37, av_q (.iconst 0)), (38, av_q (.istore_n 3)), (39, av_q (.aload_n 0)), (40, av_qf (.getfield 59) 0 12 2), (43, av_q (.aload_n 0)), (44, av_qf (.getfield 53) 0 14 0), (47, av_q (.iload_n 3)), (48, av_qa (.ifCond .eq 7) 55), (51, av_q (.iconst 2)), (52, av_qa (.goto 4) 56), (55, av_q (.iconst 1)), (56, av_qc (.invokevirtual 74) 29 2 0 1), (59, av_q (.ireturn))]
def cd_20 : List (Nat × av_E) := [(0, av_q (.aload_n 0)), (1, av_qf (.getfield 46) 0 11 2), (4, av_q (.bipush 12)), (6, av_q (.iaload)), (7, av_qa (.ifCond .ne 8) 15), (10, av_q (.aload_n 0)), (11, av_qf (.getfield 56) 0 15 0), (14, av_q (.ireturn)), (15, av_q (.sipush 9999)), (18, av_q (.istore_n 1)), (19, av_q (.iconst 0)), (20, av_q (.istore_n 2)), (21, av_q (.iload_n 2)), (22, av_q (.aload_n 0)), (23, av_qf (.getfield 59) 0 12 2), (26, av_qf (.getfield 69) 1 1 0), (29, av_qa (.if_icmp .ge 69) 98), (32, av_q (.aload_n 0)), (33, av_qf (.getfield 59) 0 12 2), (36, av_q (.iload_n 2)), (37, av_q (.iconst 0)), (38, av_qc (.invokevirtual 74) 29 2 0 1), (41, av_q (.bipush 7)), (43, av_qa (.if_icmp .ne 49) 92), (46, av_q (.aload_n 0)), (47, av_qf (.getfield 59) 0 12 2), (50, av_q (.iload_n 2)), (51, av_q (.iconst 3)), (52, av_qc (.invokevirtual 74) 29 2 0 1), (55, av_q (.aload_n 0)), (56, av_qf (.getfield 53) 0 14 0), (59, av_qa (.if_icmp .ne 33) 92), (62, av_q (.aload_n 0)), (63, av_q (.iload_n 2)), (64, av_q (.aload_n 0)), (65, av_qf (.getfield 46) 0 11 2), (68, av_q (.bipush 12)), (70, av_q (.iaload)), (71, av_q (.iconst 1)), (72, av_q (.isub)), (73, av_qc (.invokevirtual 115) 6 2 0 0), (76, av_q (.istore_n 3)), (77, av_q (.iload_n 3)), (78, av_q (.iconst (-1))), (79, av_qa (.if_icmp .ne 7) 86), (82, av_q (.iload_n 1)), (83, av_qa (.goto 8) 91), (86, av_q (.iload_n 1)), (87, av_q (.iload_n 3)), (88, av_qa (.invokestatic 122) 1002), (91, av_q (.istore_n 1)), (92, av_q (.iinc 2 1)), (95, av_qa (.goto (-74)) 21), (98, av_q (.iload_n 1)), (99, av_q (.ireturn))]
def cd_21 : List (Nat × av_E) := [(0, av_q (.aload_n 0)), (1, av_qf (.getfield 59) 0 12 2), (4, av_q (.iload_n 1)), (5, av_qc (.invokevirtual 136) 28 1 0 1), (8, av_qa (.ifCond .ne 5) 13), (11, av_q (.iconst 0)), (12, av_q (.ireturn)), (13, av_q (.aload_n 0)), (14, av_qf (.getfield 59) 0 12 2), (17, av_q (.iload_n 1)), (18, av_q (.iconst 3)), (19, av_qc (.invokevirtual 74) 29 2 0 1), (22, av_q (.istore_n 2)), (23, av_q (.aload_n 0)), (24, av_qf (.getfield 28) 0 5 2), (27, av_q (.iload_n 1)), (28, av_q (.iaload)), (29, av_q (.iconst (-1))), (30, av_qa (.if_icmp .eq 7) 37), (33, av_q (.iconst 1)), (34, av_qa (.goto 4) 38), (37, av_q (.iconst 0)), (38, av_q (.istore_n 3)), (39, av_q (.aload_n 0)), (40, av_qf (.getfield 59) 0 12 2), (43, av_q (.iload_n 2)), (44, av_qc (.invokevirtual 136) 28 1 0 1), (47, av_qa (.ifCond .eq 17) 64), (50, av_q (.aload_n 0)), (51, av_qf (.getfield 37) 0 8 2), (54, av_q (.iload_n 2)), (55, av_q (.iaload)), (56, av_q (.iload_n 1)), (57, av_qa (.if_icmp .ne 7) 64), (60, av_q (.iload_n 3)), (61, av_q (.iconst 2)), (62, av_q (.ior)), (63, av_q (.istore_n 3)), (64, av_q (.aload_n 0)), (65, av_qc (.invokevirtual 142) 3 0 0 0), (68, av_qa (.ifCond .eq 15) 83), (71, av_q (.aload_n 0)), (72, av_qf (.getfield 49) 0 13 0), (75, av_q (.iload_n 1)), (76, av_qa (.if_icmp .ne 7) 83), (79, av_q (.iload_n 3)), (80, av_q (.iconst 4)), (81, av_q (.ior)), (82, av_q (.istore_n 3)), (83, av_q (.aload_n 0)), (84, av_qf (.getfield 59) 0 12 2), (87, av_q (.iload_n 1)), (88, av_q (.iconst 0)), (89, av_qc (.invokevirtual 74) 29 2 0 1), (92, av_q (.iconst 5)), (93, av_qa (.if_icmp .ne 19) 112), (96, av_q (.aload_n 0)), (97, av_q (.iload_n 1)), (98, av_q (.iload_n 2)), (99, av_qc (.invokevirtual 150) 22 2 0 0), (102, av_qa (.ifCond .eq 10) 112), (105, av_q (.iload_n 3)), (106, av_q (.bipush 8)), (108, av_q (.ior)), (109, av_qa (.goto 4) 113), (112, av_q (.iload_n 3)), (113, av_q (.ireturn))]
def cd_22 : List (Nat × av_E) := [(0, av_q (.aload_n 0)), (1, av_qf (.getfield 59) 0 12 2), (4, av_q (.iload_n 2)), (5, av_qc (.invokevirtual 136) 28 1 0 1), (8, av_qa (.ifCond .eq 12) 20), (11, av_q (.aload_n 0)), (12, av_qf (.getfield 22) 0 3 2), (15, av_q (.iload_n 2)), (16, av_q (.baload)), (17, av_qa (.ifCond .ne 5) 22), (20, av_q (.iconst 0)), (21, av_qa (.ireturn) 1), (22, av_q (.aload_n 0)), (23, av_q (.iload_n 1)), (24, av_q (.aload_n 0)), (25, av_qf (.getfield 46) 0 11 2), (28, av_q (.iconst 4)), (29, av_q (.iaload)), (30, av_qc (.invokevirtual 115) 6 2 0 0), (33, av_q (.istore_n 3)), (34, av_q (.aload_n 0)), (35, av_q (.iload_n 2)), (36, av_q (.aload_n 0)), (37, av_q (.iload_n 2)), (38, av_qc (.invokevirtual 129) 13 1 0 0), (41, av_qc (.invokevirtual 115) 6 2 0 0), (44, av_q (.istore 4)), (46, av_q (.iload_n 3)), (47, av_q (.iconst (-1))), (48, av_qa (.if_icmp .eq 19) 67), (51, av_q (.iload 4)), (53, av_q (.iconst (-1))), (54, av_qa (.if_icmp .eq 13) 67), (57, av_q (.iload_n 3)), (58, av_q (.iload 4)), (60, av_qa (.if_icmp .ge 7) 67), (63, av_q (.iconst 1)), (64, av_qa (.goto 4) 68), (67, av_q (.iconst 0)), (68, av_qa (.ireturn) 1)]
def cd_23 : List (Nat × av_E) := [(0, av_q (.iconst 0)), (1, av_q (.istore 4)), (3, av_q (.iload 4)), (5, av_q (.aload_n 0)), (6, av_qf (.getfield 59) 0 12 2), (9, av_qf (.getfield 69) 1 1 0), (12, av_qa (.if_icmp .ge 33) 45), (15, av_q (.iload_n 3)), (16, av_q (.aload_n 0)), (17, av_q (.iload 4)), (19, av_q (.iload_n 1)), (20, av_q (.iload_n 2)), (21, av_qc (.invokevirtual 153) 25 3 0 0), (24, av_qa (.if_icmp .lt 15) 39), (27, av_q (.iload_n 3)), (28, av_q (.aload_n 0)), (29, av_q (.iload 4)), (31, av_qc (.invokevirtual 157) 26 1 0 0), (34, av_qa (.if_icmp .gt 5) 39), (37, av_q (.iconst 1)), (38, av_qa (.ireturn) 1), (39, av_q (.iinc 4 1)), (42, av_qa (.goto (-39)) 3), (45, av_q (.iconst 0)), (46, av_qa (.ireturn) 1)]
def cd_24 : List (Nat × av_E) := [(0, av_q (.iconst (-1))), (1, av_q (.istore_n 3)), (2, av_q (.iconst 0)), (3, av_q (.istore 4)), (5, av_q (.iload 4)), (7, av_q (.aload_n 0)), (8, av_qf (.getfield 59) 0 12 2), (11, av_qf (.getfield 69) 1 1 0), (14, av_qa (.if_icmp .ge 37) 51), (17, av_q (.aload_n 0)), (18, av_q (.iload 4)), (20, av_q (.iload_n 1)), (21, av_q (.iload_n 2)), (22, av_qc (.invokevirtual 153) 25 3 0 0), (25, av_q (.aload_n 0)), (26, av_q (.iload 4)), (28, av_qc (.invokevirtual 157) 26 1 0 0), (31, av_qa (.if_icmp .gt 14) 45), (34, av_q (.iload_n 3)), (35, av_q (.aload_n 0)), (36, av_q (.iload 4)), (38, av_qc (.invokevirtual 157) 26 1 0 0), (41, av_qa (.invokestatic 106) 1001), (44, av_q (.istore_n 3)), (45, av_q (.iinc 4 1)), (48, av_qa (.goto (-43)) 5), (51, av_q (.iload_n 3)), (52, av_q (.ireturn))]
def cd_25 : List (Nat × av_E) := [(0, av_q (.aload_n 0)), (1, av_q (.iload_n 1)), (2, av_qc (.invokevirtual 160) 15 1 0 0), (5, av_qa (.ifCond .eq 35) 40), (8, av_q (.aload_n 0)), (9, av_qf (.getfield 28) 0 5 2), (12, av_q (.iload_n 1)), (13, av_q (.iaload)), (14, av_q (.iconst (-1))), (15, av_qa (.if_icmp .eq 25) 40), (18, av_q (.aload_n 0)), (19, av_qf (.getfield 59) 0 12 2), (22, av_q (.iload_n 1)), (23, av_q (.iload_n 3)), (24, av_q (.iconst 1)), (25, av_qa (.if_icmp .ne 7) 32), (28, av_q (.iconst 1)), (29, av_qa (.goto 4) 33), (32, av_q (.iconst 2)), (33, av_qc (.invokevirtual 74) 29 2 0 1), (36, av_q (.iload_n 2)), (37, av_qa (.if_icmp .eq 7) 44), (40, av_q (.sipush 9999)), (43, av_q (.ireturn)), (44, av_q (.iload_n 3)), (45, av_q (.iconst 1)), (46, av_qa (.if_icmp .ne 18) 64), (49, av_q (.aload_n 0)), (50, av_qf (.getfield 28) 0 5 2), (53, av_q (.iload_n 1)), (54, av_q (.iaload)), (55, av_q (.aload_n 0)), (56, av_q (.iload_n 1)), (57, av_qc (.invokevirtual 125) 10 1 0 0), (60, av_qa (.invokestatic 106) 1001), (63, av_q (.ireturn)), (64, av_q (.aload_n 0)), (65, av_q (.iload_n 1)), (66, av_q (.iconst 1)), (67, av_qc (.invokevirtual 115) 6 2 0 0), (70, av_q (.istore 4)), (72, av_q (.iload 4)), (74, av_q (.iconst (-1))), (75, av_qa (.if_icmp .ne 9) 84), (78, av_q (.sipush 9999)), (81, av_qa (.goto 14) 95), (84, av_q (.aload_n 0)), (85, av_qf (.getfield 28) 0 5 2), (88, av_q (.iload_n 1)), (89, av_q (.iaload)), (90, av_q (.iload 4)), (92, av_qa (.invokestatic 106) 1001), (95, av_q (.ireturn))]
def cd_26 : List (Nat × av_E) := [(0, av_q (.aload_n 0)), (1, av_qf (.getfield 31) 0 6 2), (4, av_q (.iload_n 1)), (5, av_q (.iaload)), (6, av_q (.aload_n 0)), (7, av_qf (.getfield 56) 0 15 0), (10, av_qa (.invokestatic 122) 1002), (13, av_q (.iconst 1)), (14, av_q (.isub)), (15, av_q (.ireturn))]
def cd_27 : List (Nat × av_E) := [(0, av_q (.aload_n 0)), (1, av_qa (.invokespecial 3) 1000), (4, av_q (.aload_n 0)), (5, av_q (.aload_n 1)), (6, av_q (.iload_n 2)), (7, av_q (.bipush 21)), (9, av_q (.imul)), (10, av_qc (.invokestatic 9) 222 2 2 10), (13, av_qf (.putfield 15) 1 0 2), (16, av_q (.aload_n 0)), (17, av_q (.iload_n 2)), (18, av_qf (.putfield 21) 1 1 0), (21, av_q (.iconst 0)), (22, av_q (.istore_n 3)), (23, av_q (.iconst 1)), (24, av_q (.istore 4)), (26, av_q (.iconst 0)), (27, av_q (.istore 5)), (29, av_q (.iload 5)), (31, av_q (.aload_n 0)), (32, av_qf (.getfield 15) 1 0 2), (35, av_q (.arraylength)), (36, av_qa (.if_icmp .ge 91) 127), (39, av_q (.iconst 1)), (40, av_q (.istore 6)), (42, av_q (.iconst 0)), (43, av_q (.istore 7)), (45, av_q (.iload 7)), (47, av_q (.iconst 4)), (48, av_qa (.if_icmp .ge 48) 96), (51, av_q (.aload_n 0)), (52, av_qf (.getfield 15) 1 0 2), (55, av_q (.iload 5)), (57, av_q (.bipush 15)), (59, av_q (.iadd)), (60, av_q (.iload 7)), (62, av_q (.iadd)), (63, av_q (.iaload)), (64, av_q (.istore 8)), (66, av_q (.iload_n 3)), (67, av_q (.iload 8)), (69, av_qa (.ifCond .le 7) 76), (72, av_q (.iconst 1)), (73, av_qa (.goto 4) 77), (76, av_q (.iconst 0)), (77, av_q (.iadd)), (78, av_q (.istore_n 3)), (79, av_q (.iload 6)), (81, av_q (.iload 8)), (83, av_q (.iconst 1)), (84, av_qa (.invokestatic 25) 1001), (87, av_q (.imul)), (88, av_q (.istore 6)), (90, av_q (.iinc 7 1)), (93, av_qa (.goto (-48)) 45), (96, av_q (.aload_n 0)), (97, av_qf (.getfield 15) 1 0 2), (100, av_q (.iload 5)), (102, av_q (.bipush 20)), (104, av_q (.iadd)), (105, av_q (.iload 6)), (107, av_q (.iastore)), (108, av_q (.iload 4)), (110, av_q (.iload 6)), (112, av_q (.imul)), (113, av_q (.sipush 1025)), (116, av_qa (.invokestatic 31) 1002), (119, av_q (.istore 4)), (121, av_q (.iinc 5 21)), (124, av_qa (.goto (-95)) 29), (127, av_q (.aload_n 0)), (128, av_q (.iload_n 3)), (129, av_qf (.putfield 34) 1 2 0), (132, av_q (.aload_n 0)), (133, av_q (.iload 4)), (135, av_q (.sipush 1024)), (138, av_qa (.if_icmp .gt 8) 146), (141, av_q (.iload 4)), (143, av_qa (.goto 4) 147), (146, av_q (.iconst (-1))), (147, av_qf (.putfield 37) 1 3 0), (150, av_q (.return_))]
def cd_28 : List (Nat × av_E) := [(0, av_q (.iload_n 1)), (1, av_qa (.ifCond .lt 15) 16), (4, av_q (.iload_n 1)), (5, av_q (.aload_n 0)), (6, av_qf (.getfield 21) 1 1 0), (9, av_qa (.if_icmp .ge 7) 16), (12, av_q (.iconst 1)), (13, av_qa (.goto 4) 17), (16, av_q (.iconst 0)), (17, av_qa (.ireturn) 1)]
def cd_29 : List (Nat × av_E) := [(0, av_q (.aload_n 0)), (1, av_q (.iload_n 1)), (2, av_qc (.invokevirtual 40) 28 1 0 1), (5, av_qa (.ifCond .eq 13) 18), (8, av_q (.iload_n 2)), (9, av_qa (.ifCond .lt 9) 18), (12, av_q (.iload_n 2)), (13, av_q (.bipush 21)), (15, av_qa (.if_icmp .lt 5) 20), (18, av_q (.iconst (-1))), (19, av_q (.ireturn)), (20, av_q (.aload_n 0)), (21, av_qf (.getfield 15) 1 0 2), (24, av_q (.iload_n 1)), (25, av_q (.bipush 21)), (27, av_q (.imul)), (28, av_q (.iload_n 2)), (29, av_q (.iadd)), (30, av_q (.iaload)), (31, av_q (.ireturn))]
def cd_30 : List (Nat × av_E) := [(0, av_q (.iconst 0)), (1, av_q (.istore_n 2)), (2, av_q (.iload_n 2)), (3, av_q (.iconst 3)), (4, av_qa (.if_icmp .ge 24) 28), (7, av_q (.aload_n 0)), (8, av_q (.iload_n 1)), (9, av_q (.bipush 10)), (11, av_q (.iload_n 2)), (12, av_q (.iadd)), (13, av_qc (.invokevirtual 44) 29 2 0 1), (16, av_q (.iconst (-1))), (17, av_qa (.if_icmp .eq 5) 22), (20, av_q (.iconst 0)), (21, av_qa (.ireturn) 1), (22, av_q (.iinc 2 1)), (25, av_qa (.goto (-23)) 2), (28, av_q (.iconst 1)), (29, av_qa (.ireturn) 1)]
def cd_31 : List (Nat × av_E) := [(0, av_q (.iload_n 1)), (1, av_q (.istore_n 3)), (2, av_q (.iconst 0)), (3, av_q (.istore 4)), (5, av_q (.iload 4)), (7, av_q (.bipush 12)), (9, av_qa (.if_icmp .ge 58) 67), (12, av_q (.aload_n 0)), (13, av_q (.iload_n 3)), (14, av_qc (.invokevirtual 40) 28 1 0 1), (17, av_qa (.ifCond .eq 50) 67), (20, av_q (.aload_n 0)), (21, av_q (.iload_n 3)), (22, av_q (.bipush 10)), (24, av_q (.iload_n 2)), (25, av_q (.iadd)), (26, av_qc (.invokevirtual 44) 29 2 0 1), (29, av_q (.istore 5)), (31, av_q (.iload 5)), (33, av_q (.iconst (-1))), (34, av_qa (.if_icmp .eq 6) 40), (37, av_q (.iload 5)), (39, av_q (.ireturn)), (40, av_q (.aload_n 0)), (41, av_q (.iload_n 3)), (42, av_q (.iconst 0)), (43, av_qc (.invokevirtual 44) 29 2 0 1), (46, av_q (.iconst 3)), (47, av_qa (.if_icmp .ne 12) 59), (50, av_q (.aload_n 0)), (51, av_q (.iload_n 3)), (52, av_q (.iconst 3)), (53, av_qc (.invokevirtual 44) 29 2 0 1), (56, av_qa (.goto 4) 60), (59, av_q (.iconst (-1))), (60, av_q (.istore_n 3)), (61, av_q (.iinc 4 1)), (64, av_qa (.goto (-59)) 5), (67, av_q (.iconst (-1))), (68, av_q (.ireturn))]
def cd_32 : List (Nat × av_E) := [(0, av_q (.aload_n 0)), (1, av_qf (.getfield 15) 1 0 2), (4, av_qa (.invokevirtual 47) 1004), (7, av_q (.checkcast 48)), (10, av_q (.astore_n 2)), (11, av_q (.aload_n 0)), (12, av_q (.iload_n 1)), (13, av_qc (.invokevirtual 40) 28 1 0 1), (16, av_qa (.ifCond .eq 25) 41), (19, av_q (.aload_n 2)), (20, av_q (.iload_n 1)), (21, av_q (.bipush 21)), (23, av_q (.imul)), (24, av_q (.bipush 15)), (26, av_q (.iadd)), (27, av_q (.iconst 3)), (28, av_q (.iadd)), (29, av_q (.iconst 0)), (30, av_q (.iastore)), (31, av_q (.aload_n 2)), (32, av_q (.iload_n 1)), (33, av_q (.bipush 21)), (35, av_q (.imul)), (36, av_q (.bipush 19)), (38, av_q (.iadd)), (39, av_q (.iconst 1)), (40, av_q (.iastore)), (41, av_qa (.new 16) 1), (44, av_q (.dup)), (45, av_q (.aload_n 2)), (46, av_q (.aload_n 0)), (47, av_qf (.getfield 21) 1 1 0), (50, av_qc (.invokespecial 52) 27 2 1 1), (53, av_q (.areturn))]
def cd_33 : List (Nat × av_E) := [(0, av_q (.aload_n 0)), (1, av_qf (.getfield 15) 1 0 2), (4, av_qa (.invokevirtual 47) 1004), (7, av_q (.checkcast 48)), (10, av_q (.astore_n 2)), (11, av_q (.aload_n 0)), (12, av_q (.iload_n 1)), (13, av_qc (.invokevirtual 40) 28 1 0 1), (16, av_qa (.ifCond .eq 49) 65), (19, av_q (.iload_n 1)), (20, av_q (.bipush 21)), (22, av_q (.imul)), (23, av_q (.istore_n 3)), (24, av_q (.aload_n 2)), (25, av_q (.iload_n 3)), (26, av_q (.iconst 4)), (27, av_q (.iadd)), (28, av_q (.iconst 1)), (29, av_q (.iastore)), (30, av_q (.aload_n 2)), (31, av_q (.iload_n 3)), (32, av_q (.bipush 7)), (34, av_q (.iadd)), (35, av_q (.iconst 1)), (36, av_q (.iadd)), (37, av_q (.iconst 0)), (38, av_q (.iastore)), (39, av_q (.aload_n 2)), (40, av_q (.iload_n 3)), (41, av_q (.bipush 7)), (43, av_q (.iadd)), (44, av_q (.iconst 2)), (45, av_q (.iadd)), (46, av_q (.iconst 0)), (47, av_q (.iastore)), (48, av_q (.aload_n 2)), (49, av_q (.iload_n 3)), (50, av_q (.bipush 15)), (52, av_q (.iadd)), (53, av_q (.iconst 1)), (54, av_q (.iadd)), (55, av_q (.iload_n 3)), (56, av_q (.bipush 15)), (58, av_q (.iadd)), (59, av_q (.iconst 4)), (60, av_q (.iadd)), (61, av_q (.iconst 0)), (62, av_qc (.invokestatic 55) 221 4 2 10), (65, av_qa (.new 16) 1), (68, av_q (.dup)), (69, av_q (.aload_n 2)), (70, av_q (.aload_n 0)), (71, av_qf (.getfield 21) 1 1 0), (74, av_qc (.invokespecial 52) 27 2 1 1), (77, av_q (.areturn))]
def cd_34 : List (Nat × av_E) := [(0, av_q (.aload_n 0)), (1, av_qa (.invokespecial 3) 1000), (4, av_q (.aload_n 0)), (5, av_q (.sipush 252)), (8, av_q (.newarray .int)), (10, av_qf (.putfield 9) 2 1 2), (13, av_q (.aload_n 0)), (14, av_q (.iconst 0)), (15, av_qf (.putfield 15) 2 2 0), (18, av_q (.aload_n 0)), (19, av_q (.aload_n 1)), (20, av_qf (.putfield 19) 2 0 2), (23, av_q (.return_))]
def cd_35 : List (Nat × av_E) := [(0, av_q (.aload_n 0)), (1, av_q (.iload_n 2)), (2, av_qf (.putfield 15) 2 2 0), (5, av_q (.aload_n 1)), (6, av_qf (.getfield 23) 1 1 0), (9, av_q (.bipush 12)), (11, av_qa (.invokestatic 28) 1002), (14, av_q (.istore_n 3)), (15, av_q (.iload_n 3)), (16, av_q (.istore 4)), (18, av_q (.aload_n 1)), (19, av_qf (.getfield 34) 1 0 2), (22, av_q (.iconst 0)), (23, av_q (.aload_n 0)), (24, av_qf (.getfield 9) 2 1 2), (27, av_q (.iconst 0)), (28, av_q (.iload_n 3)), (29, av_q (.bipush 21)), (31, av_q (.imul)), (32, av_qa (.invokestatic 35) 1003), (35, av_q (.iload_n 3)), (36, av_q (.istore 5)), (38, av_q (.iload 5)), (40, av_q (.bipush 12)), (42, av_qa (.if_icmp .gt 48) 90), (45, av_q (.aload_n 0)), (46, av_qf (.getfield 19) 2 0 2), (49, av_qc (.invokevirtual 41) 84 0 0 6), (52, av_qa (.ifCond .eq 38) 90), (55, av_q (.iload 5)), (57, av_q (.bipush 12)), (59, av_qa (.if_icmp .ne 13) 72), (62, av_q (.aload_n 0)), (63, av_qf (.getfield 19) 2 0 2), (66, av_qc (.invokevirtual 47) 85 0 0 6), (69, av_qa (.goto 15) 84), (72, av_q (.aload_n 0)), (73, av_q (.iload 5)), (75, av_qc (.invokevirtual 50) 36 1 0 2), (78, av_q (.iload 5)), (80, av_q (.iconst 1)), (81, av_q (.iadd)), (82, av_q (.istore 4)), (84, av_q (.iinc 5 1)), (87, av_qa (.goto (-49)) 38), (90, av_q (.iload 4)), (92, av_q (.iload_n 3)), (93, av_qa (.if_icmp .ne 10) 103), (96, av_q (.aload_n 0)), (97, av_qf (.getfield 19) 2 0 2), (100, av_qc (.invokevirtual 47) 85 0 0 6), (103, av_q (.aload_n 0)), (104, av_qf (.getfield 19) 2 0 2), (107, av_qf (.getfield 54) 6 6 0), (110, av_q (.iconst (-1))), (111, av_qa (.if_icmp .ne 19) 130), (114, av_qa (.new 24) 1), (117, av_q (.dup)), (118, av_q (.aload_n 0)), (119, av_qf (.getfield 9) 2 1 2), (122, av_q (.iload 4)), (124, av_qc (.invokespecial 57) 27 2 1 1), (127, av_qa (.goto 4) 131), (130, av_q (.aconst_null)), (131, av_q (.areturn))]
def cd_36 : List (Nat × av_E) := [(0, av_q (.iload_n 1)), (1, av_q (.bipush 21)), (3, av_q (.imul)), (4, av_q (.istore_n 2)), (5, av_q (.aload_n 0)), (6, av_qf (.getfield 9) 2 1 2), (9, av_q (.iload_n 2)), (10, av_q (.iload_n 2)), (11, av_q (.bipush 21)), (13, av_q (.iadd)), (14, av_q (.iconst (-1))), (15, av_qc (.invokestatic 60) 221 4 2 10), (18, av_q (.aload_n 0)), (19, av_qf (.getfield 9) 2 1 2), (22, av_q (.iload_n 2)), (23, av_q (.bipush 7)), (25, av_q (.iadd)), (26, av_q (.iload_n 2)), (27, av_q (.bipush 7)), (29, av_q (.iadd)), (30, av_q (.iconst 3)), (31, av_q (.iadd)), (32, av_q (.iconst 0)), (33, av_qc (.invokestatic 60) 221 4 2 10), (36, av_q (.aload_n 0)), (37, av_qf (.getfield 9) 2 1 2), (40, av_q (.iload_n 2)), (41, av_q (.bipush 15)), (43, av_q (.iadd)), (44, av_q (.iload_n 2)), (45, av_q (.bipush 21)), (47, av_q (.iadd)), (48, av_q (.iconst 0)), (49, av_qc (.invokestatic 60) 221 4 2 10), (52, av_q (.aload_n 0)), (53, av_qf (.getfield 19) 2 0 2), (56, av_qs (.ldc 66) 0), (58, av_qc (.invokevirtual 68) 87 1 0 6), (61, av_q (.istore_n 3)), (62, av_q (.iload_n 3)), (63, av_q (.iconst 2)), (64, av_qa (.if_icmp .gt 7) 71), (67, av_q (.iload_n 3)), (68, av_qa (.goto 6) 74), (71, av_q (.iload_n 3)), (72, av_q (.iconst 1)), (73, av_q (.iadd)), (74, av_q (.istore 4)), (76, av_q (.aload_n 0)), (77, av_qf (.getfield 9) 2 1 2), (80, av_q (.iload_n 2)), (81, av_q (.iconst 0)), (82, av_q (.iadd)), (83, av_q (.iload 4)), (85, av_q (.iastore)), (86, av_q (.aload_n 0)), (87, av_qf (.getfield 9) 2 1 2), (90, av_q (.iload_n 2)), (91, av_q (.iconst 1)), (92, av_q (.iadd)), (93, av_q (.aload_n 0)), (94, av_qf (.getfield 19) 2 0 2), (97, av_qs (.ldc 72) 1), (99, av_qc (.invokevirtual 68) 87 1 0 6), (102, av_q (.iastore)), (103, av_q (.iload 4)), (105, av_qa (.ifCond .eq 9) 114), (108, av_q (.iload 4)), (110, av_q (.iconst 1)), (111, av_qa (.if_icmp .ne 11) 122), (114, av_q (.aload_n 0)), (115, av_q (.iload_n 2)), (116, av_qc (.invokevirtual 74) 37 1 0 2), (119, av_qa (.goto 10) 129), (122, av_q (.aload_n 0)), (123, av_q (.iload_n 1)), (124, av_q (.iload 4)), (126, av_qc (.invokevirtual 77) 38 2 0 2), (129, av_q (.iload 4)), (131, av_qa (.ifCond .ne 8) 139), (134, av_q (.aload_n 0)), (135, av_q (.iload_n 2)), (136, av_qc (.invokevirtual 81) 40 1 0 2), (139, av_q (.iload 4)), (141, av_q (.iconst 2)), (142, av_qa (.if_icmp .ne 20) 162), (145, av_q (.aload_n 0)), (146, av_qf (.getfield 19) 2 0 2), (149, av_qs (.ldc 84) 5), (151, av_qc (.invokevirtual 86) 88 1 0 6), (154, av_qa (.ifCond .eq 8) 162), (157, av_q (.aload_n 0)), (158, av_q (.iload_n 2)), (159, av_qc (.invokevirtual 90) 41 1 0 2), (162, av_q (.aload_n 0)), (163, av_q (.iload_n 2)), (164, av_qc (.invokevirtual 93) 43 1 0 2), (167, av_q (.aload_n 0)), (168, av_qf (.getfield 19) 2 0 2), (171, av_qc (.invokevirtual 96) 90 0 0 6), (174, av_q (.return_))]
def cd_37 : List (Nat × av_E) := [(0, av_q (.aload_n 0)), (1, av_qf (.getfield 19) 2 0 2), (4, av_qs (.ldc 72) 1), (6, av_qc (.invokevirtual 99) 86 1 0 6), (9, av_q (.aload_n 0)), (10, av_qf (.getfield 9) 2 1 2), (13, av_q (.iload_n 1)), (14, av_q (.iconst 1)), (15, av_q (.iadd)), (16, av_q (.iaload)), (17, av_qa (.if_icmp .ne 10) 27), (20, av_q (.aload_n 0)), (21, av_qf (.getfield 19) 2 0 2), (24, av_qc (.invokevirtual 47) 85 0 0 6), (27, av_q (.aload_n 0)), (28, av_qf (.getfield 9) 2 1 2), (31, av_q (.iload_n 1)), (32, av_q (.iconst 2)), (33, av_q (.iadd)), (34, av_q (.aload_n 0)), (35, av_qf (.getfield 19) 2 0 2), (38, av_qs (.ldc 72) 1), (40, av_qc (.invokevirtual 68) 87 1 0 6), (43, av_q (.iastore)), (44, av_q (.return_))]
def cd_38 : List (Nat × av_E) := [(0, av_q (.aload_n 0)), (1, av_qf (.getfield 19) 2 0 2), (4, av_qc (.invokevirtual 102) 91 0 0 6), (7, av_q (.istore_n 3)), (8, av_q (.iload_n 3)), (9, av_qa (.ifCond .lt 31) 40), (12, av_q (.iload_n 3)), (13, av_q (.iload_n 1)), (14, av_qa (.if_icmp .ge 26) 40), (17, av_q (.aload_n 0)), (18, av_q (.iload_n 2)), (19, av_q (.aload_n 0)), (20, av_qf (.getfield 9) 2 1 2), (23, av_q (.iload_n 1)), (24, av_q (.bipush 21)), (26, av_q (.imul)), (27, av_q (.iconst 1)), (28, av_q (.iadd)), (29, av_q (.iaload)), (30, av_q (.iload_n 3)), (31, av_q (.bipush 21)), (33, av_q (.imul)), (34, av_qc (.invokevirtual 106) 39 3 0 2), (37, av_qa (.ifCond .ne 11) 48), (40, av_q (.aload_n 0)), (41, av_qf (.getfield 19) 2 0 2), (44, av_qc (.invokevirtual 47) 85 0 0 6), (47, av_q (.return_)), (48, av_q (.aload_n 0)), (49, av_qf (.getfield 9) 2 1 2), (52, av_q (.iload_n 1)), (53, av_q (.bipush 21)), (55, av_q (.imul)), (56, av_q (.iconst 3)), (57, av_q (.iadd)), (58, av_q (.iload_n 3)), (59, av_q (.iastore)), (60, av_q (.aload_n 0)), (61, av_qf (.getfield 19) 2 0 2), (64, av_qc (.invokevirtual 110) 82 0 0 6), (67, av_q (.return_))]
def cd_39 : List (Nat × av_E) := [(0, av_q (.aload_n 0)), (1, av_qf (.getfield 9) 2 1 2), (4, av_q (.iload_n 3)), (5, av_q (.iconst 0)), (6, av_q (.iadd)), (7, av_q (.iaload)), (8, av_q (.istore 4)), (10, av_q (.iload 4)), (12, av_qa (.ifCond .eq 9) 21), (15, av_q (.iload 4)), (17, av_q (.iconst 3)), (18, av_qa (.if_icmp .ne 7) 25), (21, av_q (.iconst 1)), (22, av_qa (.goto 4) 26), (25, av_q (.iconst 0)), (26, av_q (.istore 5)), (28, av_q (.iload_n 1)), (29, av_q (.iconst 5)), (30, av_qa (.if_icmp .ne 32) 62), (33, av_q (.iload 5)), (35, av_qa (.ifCond .ne 9) 44), (38, av_q (.iload 4)), (40, av_q (.iconst 2)), (41, av_qa (.if_icmp .ne 19) 60), (44, av_q (.aload_n 0)), (45, av_qf (.getfield 9) 2 1 2), (48, av_q (.iload_n 3)), (49, av_q (.iconst 1)), (50, av_q (.iadd)), (51, av_q (.iaload)), (52, av_q (.iload_n 2)), (53, av_qa (.if_icmp .ne 7) 60), (56, av_q (.iconst 1)), (57, av_qa (.goto 4) 61), (60, av_q (.iconst 0)), (61, av_qa (.ireturn) 1), (62, av_q (.iload 5)), (64, av_qa (.ifCond .eq 29) 93), (67, av_q (.aload_n 0)), (68, av_qf (.getfield 9) 2 1 2), (71, av_q (.iload_n 3)), (72, av_q (.iload_n 1)), (73, av_q (.bipush 7)), (75, av_qa (.if_icmp .ne 7) 82), (78, av_q (.iconst 1)), (79, av_qa (.goto 4) 83), (82, av_q (.iconst 2)), (83, av_q (.iadd)), (84, av_q (.iaload)), (85, av_q (.iload_n 2)), (86, av_qa (.if_icmp .ne 7) 93), (89, av_q (.iconst 1)), (90, av_qa (.goto 4) 94), (93, av_q (.iconst 0)), (94, av_qa (.ireturn) 1)]
def cd_40 : List (Nat × av_E) := [(0, av_q (.aload_n 0)), (1, av_q (.iload_n 1)), (2, av_qc (.invokevirtual 113) 42 1 0 2), (5, av_q (.aload_n 0)), (6, av_qf (.getfield 19) 2 0 2), (9, av_qs (.ldc 116) 3), (11, av_qc (.invokevirtual 86) 88 1 0 6), (14, av_qa (.ifCond .eq 22) 36), (17, av_q (.aload_n 0)), (18, av_qf (.getfield 9) 2 1 2), (21, av_q (.iload_n 1)), (22, av_q (.iconst 5)), (23, av_q (.iadd)), (24, av_q (.aload_n 0)), (25, av_qf (.getfield 19) 2 0 2), (28, av_q (.iconst 0)), (29, av_q (.sipush 1999)), (32, av_qc (.invokevirtual 118) 92 2 0 6), (35, av_q (.iastore)), (36, av_q (.aload_n 0)), (37, av_qf (.getfield 19) 2 0 2), (40, av_qs (.ldc 121) 4), (42, av_qc (.invokevirtual 86) 88 1 0 6), (45, av_qa (.ifCond .eq 26) 71), (48, av_q (.aload_n 0)), (49, av_qf (.getfield 9) 2 1 2), (52, av_q (.iload_n 1)), (53, av_q (.bipush 6)), (55, av_q (.iadd)), (56, av_q (.aload_n 0)), (57, av_qf (.getfield 19) 2 0 2), (60, av_q (.iconst 0)), (61, av_q (.aload_n 0)), (62, av_qf (.getfield 15) 2 2 0), (65, av_q (.iconst 1)), (66, av_q (.isub)), (67, av_qc (.invokevirtual 118) 92 2 0 6), (70, av_q (.iastore)), (71, av_q (.return_))]
def cd_41 : List (Nat × av_E) := [(0, av_q (.aload_n 0)), (1, av_qf (.getfield 9) 2 1 2), (4, av_q (.iload_n 1)), (5, av_q (.iconst 0)), (6, av_q (.iadd)), (7, av_q (.iconst 3)), (8, av_q (.iastore)), (9, av_q (.aload_n 0)), (10, av_qf (.getfield 9) 2 1 2), (13, av_q (.iload_n 1)), (14, av_q (.iconst 3)), (15, av_q (.iadd)), (16, av_q (.iaload)), (17, av_q (.istore_n 2)), (18, av_q (.iload_n 2)), (19, av_qa (.ifCond .lt 28) 47), (22, av_q (.iload_n 2)), (23, av_q (.bipush 12)), (25, av_qa (.if_icmp .ge 22) 47), (28, av_q (.aload_n 0)), (29, av_qf (.getfield 9) 2 1 2), (32, av_q (.iload_n 1)), (33, av_q (.iconst 2)), (34, av_q (.iadd)), (35, av_q (.aload_n 0)), (36, av_qf (.getfield 9) 2 1 2), (39, av_q (.iload_n 2)), (40, av_q (.bipush 21)), (42, av_q (.imul)), (43, av_q (.iconst 1)), (44, av_q (.iadd)), (45, av_q (.iaload)), (46, av_q (.iastore)), (47, av_q (.aload_n 0)), (48, av_qf (.getfield 19) 2 0 2), (51, av_qs (.ldc 123) 2), (53, av_qc (.invokevirtual 99) 86 1 0 6), (56, av_q (.iconst (-1))), (57, av_qa (.if_icmp .ne 10) 67), (60, av_q (.aload_n 0)), (61, av_qf (.getfield 19) 2 0 2), (64, av_qc (.invokevirtual 47) 85 0 0 6), (67, av_q (.aload_n 0)), (68, av_q (.iload_n 1)), (69, av_qc (.invokevirtual 113) 42 1 0 2), (72, av_q (.return_))]
def cd_42 : List (Nat × av_E) := [(0, av_q (.iconst 0)), (1, av_q (.istore_n 2)), (2, av_q (.iload_n 2)), (3, av_q (.sipush 900)), (6, av_qa (.if_icmp .ge 54) 60), (9, av_q (.aload_n 0)), (10, av_qf (.getfield 19) 2 0 2), (13, av_qs (.ldc 123) 2), (15, av_qc (.invokevirtual 99) 86 1 0 6), (18, av_q (.istore_n 3)), (19, av_q (.iload_n 3)), (20, av_q (.iconst (-1))), (21, av_qa (.if_icmp .ne 4) 25), (24, av_q (.return_)), (25, av_q (.aload_n 0)), (26, av_qf (.getfield 19) 2 0 2), (29, av_qc (.invokevirtual 110) 82 0 0 6), (32, av_q (.aload_n 0)), (33, av_qf (.getfield 9) 2 1 2), (36, av_q (.iload_n 1)), (37, av_q (.bipush 10)), (39, av_q (.iadd)), (40, av_q (.iload_n 3)), (41, av_q (.iadd)), (42, av_q (.aload_n 0)), (43, av_qf (.getfield 19) 2 0 2), (46, av_q (.iconst 0)), (47, av_q (.sipush 999)), (50, av_qc (.invokevirtual 118) 92 2 0 6), (53, av_q (.iastore)), (54, av_q (.iinc 2 1)), (57, av_qa (.goto (-55)) 2), (60, av_q (.return_))]
def cd_43 : List (Nat × av_E) := [(0, av_q (.aload_n 0)), (1, av_qf (.getfield 19) 2 0 2), (4, av_qs (.ldc 125) 6), (6, av_qc (.invokevirtual 68) 87 1 0 6), (9, av_q (.istore_n 2)), (10, av_q (.aload_n 0)), (11, av_qf (.getfield 9) 2 1 2), (14, av_q (.iload_n 1)), (15, av_q (.iconst 4)), (16, av_q (.iadd)), (17, av_q (.iload_n 2)), (18, av_q (.iastore)), (19, av_q (.aload_n 0)), (20, av_qf (.getfield 19) 2 0 2), (23, av_qs (.ldc 127) 7), (25, av_qc (.invokevirtual 129) 89 1 0 6), (28, av_q (.aload_n 0)), (29, av_q (.iload_n 1)), (30, av_q (.iconst 0)), (31, av_q (.sipush 1999)), (34, av_qc (.invokevirtual 133) 44 3 0 2), (37, av_q (.iload_n 2)), (38, av_q (.iconst 1)), (39, av_qa (.if_icmp .le 4) 43), (42, av_q (.return_)), (43, av_q (.aload_n 0)), (44, av_qf (.getfield 19) 2 0 2), (47, av_qs (.ldc 137) 9), (49, av_qc (.invokevirtual 129) 89 1 0 6), (52, av_q (.aload_n 0)), (53, av_q (.iload_n 1)), (54, av_q (.iconst 1)), (55, av_q (.sipush 999)), (58, av_qc (.invokevirtual 133) 44 3 0 2), (61, av_q (.aload_n 0)), (62, av_qf (.getfield 19) 2 0 2), (65, av_qs (.ldc 139) 10), (67, av_qc (.invokevirtual 86) 88 1 0 6), (70, av_qa (.ifCond .eq 12) 82), (73, av_q (.aload_n 0)), (74, av_q (.iload_n 1)), (75, av_q (.iconst 2)), (76, av_q (.sipush 999)), (79, av_qc (.invokevirtual 133) 44 3 0 2), (82, av_q (.aload_n 0)), (83, av_qf (.getfield 19) 2 0 2), (86, av_qs (.ldc 141) 11), (88, av_qc (.invokevirtual 86) 88 1 0 6), (91, av_qa (.ifCond .eq 15) 106), (94, av_q (.aload_n 0)), (95, av_qf (.getfield 9) 2 1 2), (98, av_q (.iload_n 1)), (99, av_q (.bipush 15)), (101, av_q (.iadd)), (102, av_q (.iconst 3)), (103, av_q (.iadd)), (104, av_q (.iconst 2)), (105, av_q (.iastore)), (106, av_q (.return_))]
def cd_44 : List (Nat × av_E) := [(0, av_q (.aload_n 0)), (1, av_qf (.getfield 19) 2 0 2), (4, av_q (.iconst 0)), (5, av_q (.iload_n 3)), (6, av_qc (.invokevirtual 118) 92 2 0 6), (9, av_q (.istore 4)), (11, av_q (.aload_n 0)), (12, av_qf (.getfield 9) 2 1 2), (15, av_q (.iload_n 1)), (16, av_q (.bipush 7)), (18, av_q (.iadd)), (19, av_q (.iload_n 2)), (20, av_q (.iadd)), (21, av_q (.iload 4)), (23, av_q (.iastore)), (24, av_q (.aload_n 0)), (25, av_qf (.getfield 19) 2 0 2), (28, av_qs (.ldc 143) 8), (30, av_qc (.invokevirtual 86) 88 1 0 6), (33, av_qa (.ifCond .eq 41) 74), (36, av_q (.aload_n 0)), (37, av_qf (.getfield 19) 2 0 2), (40, av_q (.iload 4)), (42, av_q (.iload_n 3)), (43, av_q (.iload 4)), (45, av_q (.bipush 15)), (47, av_q (.iadd)), (48, av_qa (.invokestatic 28) 1002), (51, av_qc (.invokevirtual 118) 92 2 0 6), (54, av_q (.istore 5)), (56, av_q (.aload_n 0)), (57, av_qf (.getfield 9) 2 1 2), (60, av_q (.iload_n 1)), (61, av_q (.bipush 15)), (63, av_q (.iadd)), (64, av_q (.iload_n 2)), (65, av_q (.iadd)), (66, av_q (.iload 5)), (68, av_q (.iload 4)), (70, av_q (.isub)), (71, av_q (.iconst 1)), (72, av_q (.iadd)), (73, av_q (.iastore)), (74, av_q (.return_))]
def cd_45 : List (Nat × av_E) := [(0, av_q (.aload_n 0)), (1, av_qa (.invokespecial 3) 1000), (4, av_q (.aload_n 0)), (5, av_q (.sipush 144)), (8, av_q (.newarray .int)), (10, av_qf (.putfield 11) 3 4 2), (13, av_q (.aload_n 0)), (14, av_q (.bipush 16)), (16, av_q (.newarray .boolean)), (18, av_qf (.putfield 15) 3 5 2), (21, av_q (.aload_n 0)), (22, av_q (.sipush 1024)), (25, av_q (.newarray .boolean)), (27, av_qf (.putfield 19) 3 6 2), (30, av_q (.aload_n 0)), (31, av_q (.bipush 14)), (33, av_q (.newarray .int)), (35, av_qf (.putfield 22) 3 7 2), (38, av_q (.aload_n 0)), (39, av_q (.iconst 5)), (40, av_q (.newarray .int)), (42, av_qf (.putfield 25) 3 8 2), (45, av_q (.aload_n 0)), (46, av_q (.iconst 0)), (47, av_qf (.putfield 28) 3 9 0), (50, av_q (.aload_n 0)), (51, av_q (.iconst 0)), (52, av_qf (.putfield 32) 3 10 0), (55, av_qa (.new 35) 1), (58, av_q (.dup)), (59, av_q (.iconst 0)), (60, av_q (.newarray .int)), (62, av_q (.iconst 0)), (63, av_qc (.invokespecial 37) 27 2 1 1), (66, av_q (.astore_n 2)), (67, av_q (.aload_n 0)), (68, av_q (.aload_n 1)), (69, av_qf (.putfield 40) 3 0 2), (72, av_q (.aload_n 0)), (73, av_qa (.new 44) 0), (76, av_q (.dup)), (77, av_q (.aload_n 2)), (78, av_qc (.invokespecial 46) 0 1 1 0), (81, av_qf (.putfield 49) 3 1 2), (84, av_q (.aload_n 0)), (85, av_qa (.new 44) 0), (88, av_q (.dup)), (89, av_q (.aload_n 2)), (90, av_qc (.invokespecial 46) 0 1 1 0), (93, av_qf (.putfield 53) 3 2 2), (96, av_q (.aload_n 0)), (97, av_qa (.new 44) 0), (100, av_q (.dup)), (101, av_q (.aload_n 2)), (102, av_qc (.invokespecial 46) 0 1 1 0), (105, av_qf (.putfield 56) 3 3 2), (108, av_q (.return_))]
def cd_46 : List (Nat × av_E) := [(0, av_q (.aload_n 0)), (1, av_qf (.getfield 11) 3 4 2), (4, av_q (.iconst 0)), (5, av_qc (.invokestatic 59) 220 2 2 10), (8, av_q (.return_))]
def cd_47 : List (Nat × av_E) := [(0, av_q (.aload_n 0)), (1, av_qf (.getfield 49) 3 1 2), (4, av_q (.aload_n 1)), (5, av_q (.aload_n 0)), (6, av_qf (.getfield 22) 3 7 2), (9, av_q (.aload_n 0)), (10, av_qf (.getfield 11) 3 4 2), (13, av_q (.sipush 128)), (16, av_qc (.invokevirtual 64) 1 4 0 0), (19, av_q (.aload_n 0)), (20, av_qf (.getfield 49) 3 1 2), (23, av_q (.iload_n 2)), (24, av_qc (.invokevirtual 68) 4 1 0 0), (27, av_q (.aload_n 0)), (28, av_qf (.getfield 49) 3 1 2), (31, av_q (.iload_n 3)), (32, av_q (.iload 4)), (34, av_qc (.invokevirtual 72) 6 2 0 0), (37, av_q (.ireturn))]
def cd_48 : List (Nat × av_E) := [(0, av_q (.aload_n 0)), (1, av_qf (.getfield 40) 3 0 2), (4, av_q (.iload_n 1)), (5, av_qc (.invokevirtual 76) 69 1 0 5), (8, av_q (.astore 4)), (10, av_q (.aload 4)), (12, av_qa (.ifnull 31) 43), (15, av_q (.iload_n 3)), (16, av_qa (.ifCond .lt 27) 43), (19, av_q (.iload_n 3)), (20, av_q (.aload 4)), (22, av_qf (.getfield 82) 1 3 0), (25, av_qa (.if_icmp .ge 18) 43), (28, av_q (.aload_n 0)), (29, av_q (.aload_n 0)), (30, av_qf (.getfield 49) 3 1 2), (33, av_q (.aload 4)), (35, av_q (.iload_n 1)), (36, av_q (.iload_n 2)), (37, av_qc (.invokevirtual 85) 51 4 0 3), (40, av_qa (.ifCond .ne 5) 45), (43, av_q (.iconst 0)), (44, av_qa (.ireturn) 1), (45, av_q (.aload_n 0)), (46, av_qf (.getfield 49) 3 1 2), (49, av_q (.iload_n 3)), (50, av_qc (.invokevirtual 89) 2 1 0 0), (53, av_q (.pop)), (54, av_q (.iconst 1)), (55, av_qa (.ireturn) 1)]
def cd_49 : List (Nat × av_E) := [(0, av_q (.aload_n 0)), (1, av_q (.aload_n 0)), (2, av_qf (.getfield 49) 3 1 2), (5, av_q (.aload_n 0)), (6, av_qf (.getfield 40) 3 0 2), (9, av_q (.iload_n 1)), (10, av_qc (.invokevirtual 76) 69 1 0 5), (13, av_q (.iload_n 1)), (14, av_q (.iload_n 2)), (15, av_qc (.invokevirtual 85) 51 4 0 3), (18, av_qa (.ireturn) 1)]
def cd_50 : List (Nat × av_E) := [(0, av_q (.aload_n 0)), (1, av_qf (.getfield 40) 3 0 2), (4, av_q (.iload_n 1)), (5, av_qc (.invokevirtual 76) 69 1 0 5), (8, av_q (.astore 4)), (10, av_q (.aload_n 0)), (11, av_q (.aload_n 0)), (12, av_qf (.getfield 49) 3 1 2), (15, av_q (.aload 4)), (17, av_q (.iload_n 1)), (18, av_q (.iload_n 2)), (19, av_qc (.invokevirtual 85) 51 4 0 3), (22, av_qa (.ifCond .eq 22) 44), (25, av_q (.aload_n 0)), (26, av_q (.aload_n 0)), (27, av_qf (.getfield 53) 3 2 2), (30, av_q (.aload 4)), (32, av_q (.iload_n 1)), (33, av_q (.iload_n 3)), (34, av_qc (.invokevirtual 85) 51 4 0 3), (37, av_qa (.ifCond .eq 7) 44), (40, av_q (.iconst 1)), (41, av_qa (.goto 4) 45), (44, av_q (.iconst 0)), (45, av_qa (.ireturn) 1)]
def cd_51 : List (Nat × av_E) := [(0, av_q (.aload_n 2)), (1, av_qa (.ifnull 23) 24), (4, av_q (.aload_n 2)), (5, av_qf (.getfield 82) 1 3 0), (8, av_q (.iconst (-1))), (9, av_qa (.if_icmp .eq 15) 24), (12, av_q (.aload_n 0)), (13, av_qf (.getfield 40) 3 0 2), (16, av_q (.iload 4)), (18, av_qc (.invokevirtual 93) 70 1 0 5), (21, av_qa (.ifCond .ne 5) 26), (24, av_q (.iconst 0)), (25, av_qa (.ireturn) 1), (26, av_q (.aload_n 0)), (27, av_q (.aload_n 2)), (28, av_q (.iload_n 3)), (29, av_q (.aload_n 0)), (30, av_qf (.getfield 40) 3 0 2), (33, av_qf (.getfield 96) 5 1 2), (36, av_q (.iload 4)), (38, av_q (.aaload)), (39, av_q (.iload 4)), (41, av_q (.bipush 16)), (43, av_q (.imul)), (44, av_qc (.invokevirtual 100) 52 4 0 3), (47, av_q (.aload_n 1)), (48, av_q (.aload_n 2)), (49, av_q (.aload_n 0)), (50, av_qf (.getfield 40) 3 0 2), (53, av_qf (.getfield 96) 5 1 2), (56, av_q (.iload 4)), (58, av_q (.aaload)), (59, av_q (.aload_n 0)), (60, av_qf (.getfield 11) 3 4 2), (63, av_q (.iload 4)), (65, av_q (.bipush 16)), (67, av_q (.imul)), (68, av_qc (.invokevirtual 64) 1 4 0 0), (71, av_q (.iconst 1)), (72, av_qa (.ireturn) 1)]
def cd_52 : List (Nat × av_E) := [(0, av_q (.aload_n 0)), (1, av_q (.aload_n 1)), (2, av_q (.iload_n 2)), (3, av_qc (.invokevirtual 104) 53 2 0 3), (6, av_qa (.ifCond .ne 4) 10), (9, av_q (.return_)), (10, av_q (.iconst 0)), (11, av_q (.istore 5)), (13, av_q (.iload 5)), (15, av_q (.iload_n 2)), (16, av_qa (.if_icmp .ge 112) 128), (19, av_q (.aload_n 0)), (20, av_qf (.getfield 40) 3 0 2), (23, av_q (.iload 5)), (25, av_qc (.invokevirtual 76) 69 1 0 5), (28, av_q (.astore 6)), (30, av_q (.aload 6)), (32, av_qa (.ifnull 90) 122), (35, av_q (.aload_n 0)), (36, av_qf (.getfield 15) 3 5 2), (39, av_q (.iload 5)), (41, av_q (.baload)), (42, av_qa (.ifCond .eq 80) 122), (45, av_q (.aload_n 0)), (46, av_qf (.getfield 11) 3 4 2), (49, av_q (.iload 4)), (51, av_q (.iload 5)), (53, av_q (.iadd)), (54, av_q (.iaload)), (55, av_qa (.ifCond .ne 67) 122), (58, av_q (.aload_n 0)), (59, av_qf (.getfield 56) 3 3 2), (62, av_q (.aload 6)), (64, av_q (.aload_n 3)), (65, av_q (.aload_n 0)), (66, av_qf (.getfield 11) 3 4 2), (69, av_q (.iload 4)), (71, av_qc (.invokevirtual 64) 1 4 0 0), (74, av_q (.aload 6)), (76, av_qf (.getfield 82) 1 3 0), (79, av_q (.iconst (-1))), (80, av_qa (.if_icmp .eq 19) 99), (83, av_q (.aload_n 0)), (84, av_qf (.getfield 56) 3 3 2), (87, av_q (.iconst 0)), (88, av_qc (.invokestatic 108) 55 2 2 3), (91, av_q (.iconst (-1))), (92, av_qa (.if_icmp .ne 7) 99), (95, av_q (.iconst 1)), (96, av_qa (.goto 4) 100), (99, av_q (.iconst 0)), (100, av_q (.istore 7)), (102, av_q (.aload_n 0)), (103, av_qf (.getfield 11) 3 4 2), (106, av_q (.iload 4)), (108, av_q (.iload 5)), (110, av_q (.iadd)), (111, av_q (.iload 7)), (113, av_qa (.ifCond .eq 7) 120), (116, av_q (.iconst 2)), (117, av_qa (.goto 4) 121), (120, av_q (.iconst 1)), (121, av_q (.iastore)), (122, av_q (.iinc 5 1)), (125, av_qa (.goto (-112)) 13), (128, av_q (.return_))]
def cd_53 : List (Nat × av_E) := [(0, av_q (.iconst 0)), (1, av_q (.istore_n 3)), (2, av_q (.iload_n 3)), (3, av_q (.bipush 16)), (5, av_qa (.if_icmp .ge 16) 21), (8, av_q (.aload_n 0)), (9, av_qf (.getfield 15) 3 5 2), (12, av_q (.iload_n 3)), (13, av_q (.iconst 0)), (14, av_q (.bastore)), (15, av_q (.iinc 3 1)), (18, av_qa (.goto (-16)) 2), (21, av_q (.aload_n 0)), (22, av_q (.aload_n 1)), (23, av_qc (.invokevirtual 112) 54 1 0 3), (26, av_q (.istore_n 3)), (27, av_q (.iload_n 2)), (28, av_q (.iconst 1)), (29, av_q (.isub)), (30, av_q (.istore 4)), (32, av_q (.iload_n 3)), (33, av_qa (.ifCond .eq 47) 80), (36, av_q (.iload 4)), (38, av_qa (.ifCond .lt 42) 80), (41, av_q (.aload_n 0)), (42, av_qf (.getfield 40) 3 0 2), (45, av_q (.iload 4)), (47, av_qc (.invokevirtual 76) 69 1 0 5), (50, av_q (.astore 5)), (52, av_q (.aload 5)), (54, av_qa (.ifnull 20) 74), (57, av_q (.aload_n 0)), (58, av_qf (.getfield 15) 3 5 2), (61, av_q (.iload 4)), (63, av_q (.baload)), (64, av_qa (.ifCond .eq 10) 74), (67, av_q (.aload_n 0)), (68, av_q (.aload 5)), (70, av_qc (.invokevirtual 112) 54 1 0 3), (73, av_q (.pop)), (74, av_q (.iinc 4 (-1))), (77, av_qa (.goto (-45)) 32), (80, av_q (.iload_n 3)), (81, av_qa (.ireturn) 1)]
def cd_54 : List (Nat × av_E) := [(0, av_q (.iconst 0)), (1, av_q (.istore_n 2)), (2, av_q (.iconst 0)), (3, av_q (.istore_n 3)), (4, av_q (.iload_n 3)), (5, av_q (.aload_n 1)), (6, av_qf (.getfield 116) 1 1 0), (9, av_qa (.if_icmp .ge 40) 49), (12, av_q (.aload_n 1)), (13, av_q (.iload_n 3)), (14, av_q (.bipush 6)), (16, av_qc (.invokevirtual 119) 29 2 0 1), (19, av_q (.istore 4)), (21, av_q (.iload 4)), (23, av_qa (.ifCond .lt 20) 43), (26, av_q (.iload 4)), (28, av_q (.bipush 16)), (30, av_qa (.if_icmp .ge 13) 43), (33, av_q (.aload_n 0)), (34, av_qf (.getfield 15) 3 5 2), (37, av_q (.iload 4)), (39, av_q (.iconst 1)), (40, av_q (.bastore)), (41, av_q (.iconst 1)), (42, av_q (.istore_n 2)), (43, av_q (.iinc 3 1)), (46, av_qa (.goto (-42)) 4), (49, av_q (.iload_n 2)), (50, av_qa (.ireturn) 1)]
def cd_55 : List (Nat × av_E) := [(0, av_q (.iload_n 1)), (1, av_q (.istore_n 2)), (2, av_q (.iconst 0)), (3, av_q (.istore_n 3)), (4, av_q (.iload_n 3)), (5, av_q (.aload_n 0)), (6, av_qf (.getfield 122) 0 12 2), (9, av_qf (.getfield 82) 1 3 0), (12, av_qa (.if_icmp .ge 43) 55), (15, av_q (.iload_n 2)), (16, av_qa (.ifCond .lt 18) 34), (19, av_q (.iload_n 2)), (20, av_q (.aload_n 0)), (21, av_qf (.getfield 122) 0 12 2), (24, av_qf (.getfield 82) 1 3 0), (27, av_qa (.if_icmp .ge 7) 34), (30, av_q (.iload_n 2)), (31, av_qa (.goto 4) 35), (34, av_q (.iconst 0)), (35, av_q (.istore_n 2)), (36, av_q (.aload_n 0)), (37, av_q (.iload_n 2)), (38, av_qc (.invokevirtual 89) 2 1 0 0), (41, av_qa (.ifCond .ne 5) 46), (44, av_q (.iload_n 2)), (45, av_q (.ireturn)), (46, av_q (.iinc 2 1)), (49, av_q (.iinc 3 1)), (52, av_qa (.goto (-48)) 4), (55, av_q (.iconst (-1))), (56, av_q (.ireturn))]
def cd_56 : List (Nat × av_E) := [(0, av_q (.aload_n 0)), (1, av_qf (.getfield 25) 3 8 2), (4, av_q (.iconst 0)), (5, av_q (.iconst 0)), (6, av_q (.iastore)), (7, av_q (.aload_n 0)), (8, av_qf (.getfield 25) 3 8 2), (11, av_q (.iconst 1)), (12, av_q (.iconst 5)), (13, av_q (.iconst (-1))), (14, av_qc (.invokestatic 126) 221 4 2 10), (17, av_q (.iconst 0)), (18, av_q (.istore_n 1)), (19, av_q (.iload_n 1)), (20, av_q (.aload_n 0)), (21, av_qf (.getfield 49) 3 1 2), (24, av_qf (.getfield 122) 0 12 2), (27, av_qf (.getfield 82) 1 3 0), (30, av_qa (.if_icmp .ge 45) 75), (33, av_q (.aload_n 0)), (34, av_qf (.getfield 49) 3 1 2), (37, av_q (.iload_n 1)), (38, av_qc (.invokevirtual 89) 2 1 0 0), (41, av_qa (.ifCond .eq 11) 52), (44, av_q (.aload_n 0)), (45, av_q (.iload_n 1)), (46, av_qc (.invokevirtual 129) 57 1 0 3), (49, av_qa (.goto 20) 69), (52, av_q (.aload_n 0)), (53, av_qf (.getfield 25) 3 8 2), (56, av_q (.iconst 2)), (57, av_q (.iaload)), (58, av_q (.iconst (-1))), (59, av_qa (.if_icmp .ne 10) 69), (62, av_q (.aload_n 0)), (63, av_qf (.getfield 25) 3 8 2), (66, av_q (.iconst 2)), (67, av_q (.iload_n 1)), (68, av_q (.iastore)), (69, av_q (.iinc 1 1)), (72, av_qa (.goto (-53)) 19), (75, av_q (.return_))]
def cd_57 : List (Nat × av_E) := [(0, av_q (.aload_n 0)), (1, av_qf (.getfield 25) 3 8 2), (4, av_q (.iconst 0)), (5, av_q (.iaload)), (6, av_qa (.ifCond .ne 7) 13), (9, av_q (.iconst 1)), (10, av_qa (.goto 4) 14), (13, av_q (.iconst 0)), (14, av_q (.istore_n 2)), (15, av_q (.aload_n 0)), (16, av_qf (.getfield 25) 3 8 2), (19, av_q (.iconst 0)), (20, av_q (.dup2)), (21, av_q (.iaload)), (22, av_q (.iconst 1)), (23, av_q (.iadd)), (24, av_q (.iastore)), (25, av_q (.iload_n 2)), (26, av_qa (.ifCond .eq 10) 36), (29, av_q (.aload_n 0)), (30, av_qf (.getfield 25) 3 8 2), (33, av_q (.iconst 1)), (34, av_q (.iload_n 1)), (35, av_q (.iastore)), (36, av_q (.aload_n 0)), (37, av_qf (.getfield 25) 3 8 2), (40, av_q (.iconst 3)), (41, av_q (.iload_n 2)), (42, av_qa (.ifCond .eq 13) 55), (45, av_q (.aload_n 0)), (46, av_qf (.getfield 49) 3 1 2), (49, av_qf (.getfield 132) 0 15 0), (52, av_qa (.goto 19) 71), (55, av_q (.aload_n 0)), (56, av_qf (.getfield 25) 3 8 2), (59, av_q (.iconst 3)), (60, av_q (.iaload)), (61, av_q (.aload_n 0)), (62, av_qf (.getfield 49) 3 1 2), (65, av_qf (.getfield 132) 0 15 0), (68, av_qa (.invokestatic 135) 1002), (71, av_q (.iastore)), (72, av_q (.aload_n 0)), (73, av_qf (.getfield 25) 3 8 2), (76, av_q (.iconst 4)), (77, av_q (.aload_n 0)), (78, av_qf (.getfield 25) 3 8 2), (81, av_q (.iconst 4)), (82, av_q (.iaload)), (83, av_q (.aload_n 0)), (84, av_qf (.getfield 49) 3 1 2), (87, av_qf (.getfield 132) 0 15 0), (90, av_qa (.invokestatic 140) 1001), (93, av_q (.iastore)), (94, av_q (.return_))]
def cd_58 : List (Nat × av_E) := [(0, av_q (.aload_n 0)), (1, av_qf (.getfield 49) 3 1 2), (4, av_qf (.getfield 122) 0 12 2), (7, av_q (.astore_n 1)), (8, av_q (.iconst 0)), (9, av_q (.istore_n 2)), (10, av_q (.iload_n 2)), (11, av_q (.aload_n 1)), (12, av_qf (.getfield 82) 1 3 0), (15, av_qa (.if_icmp .ge 30) 45), (18, av_q (.iload_n 2)), (19, av_q (.sipush 1024)), (22, av_qa (.if_icmp .ge 23) 45), (25, av_q (.aload_n 0)), (26, av_qf (.getfield 19) 3 6 2), (29, av_q (.iload_n 2)), (30, av_q (.aload_n 0)), (31, av_qf (.getfield 49) 3 1 2), (34, av_q (.iload_n 2)), (35, av_qc (.invokevirtual 89) 2 1 0 0), (38, av_q (.bastore)), (39, av_q (.iinc 2 1)), (42, av_qa (.goto (-32)) 10), (45, av_q (.iconst 0)), (46, av_q (.istore_n 2)), (47, av_q (.iconst 1)), (48, av_q (.istore_n 3)), (49, av_q (.iconst 1)), (50, av_q (.istore 4)), (52, av_q (.iconst 0)), (53, av_q (.istore 5)), (55, av_q (.iload 5)), (57, av_q (.aload_n 1)), (58, av_qf (.getfield 116) 1 1 0), (61, av_q (.iconst 4)), (62, av_q (.imul)), (63, av_qa (.if_icmp .ge 61) 124), (66, av_q (.aload_n 1)), (67, av_q (.iload 5)), (69, av_q (.iconst 4)), (70, av_q (.idiv)), (71, av_q (.bipush 15)), (73, av_q (.iload 5)), (75, av_q (.iconst 4)), (76, av_q (.irem)), (77, av_q (.iadd)), (78, av_qc (.invokevirtual 119) 29 2 0 1), (81, av_q (.istore 6)), (83, av_q (.iload 6)), (85, av_qa (.ifCond .le 33) 118), (88, av_q (.iload_n 2)), (89, av_q (.aload_n 0)), (90, av_q (.iload 4)), (92, av_q (.iload 6)), (94, av_qc (.invokevirtual 143) 59 2 0 3), (97, av_qa (.ifCond .eq 7) 104), (100, av_q (.iload_n 3)), (101, av_qa (.goto 4) 105), (104, av_q (.iconst 0)), (105, av_q (.ior)), (106, av_q (.istore_n 2)), (107, av_q (.iload_n 3)), (108, av_q (.iconst 1)), (109, av_q (.ishl)), (110, av_q (.istore_n 3)), (111, av_q (.iload 4)), (113, av_q (.iload 6)), (115, av_q (.imul)), (116, av_q (.istore 4)), (118, av_q (.iinc 5 1)), (121, av_qa (.goto (-66)) 55), (124, av_q (.iload_n 2)), (125, av_q (.ireturn))]
def cd_59 : List (Nat × av_E) := [(0, av_q (.iload_n 1)), (1, av_q (.iconst 1)), (2, av_qa (.if_icmp .lt 8) 10), (5, av_q (.iload_n 2)), (6, av_q (.iconst 1)), (7, av_qa (.if_icmp .ge 5) 12), (10, av_q (.iconst 0)), (11, av_qa (.ireturn) 1), (12, av_q (.iload_n 1)), (13, av_q (.istore_n 3)), (14, av_q (.iload_n 3)), (15, av_q (.aload_n 0)), (16, av_qf (.getfield 49) 3 1 2), (19, av_qf (.getfield 122) 0 12 2), (22, av_qf (.getfield 82) 1 3 0), (25, av_qa (.if_icmp .ge 43) 68), (28, av_q (.iload_n 3)), (29, av_q (.sipush 1024)), (32, av_qa (.if_icmp .ge 36) 68), (35, av_q (.iload_n 3)), (36, av_q (.iload_n 1)), (37, av_q (.idiv)), (38, av_q (.iload_n 2)), (39, av_q (.irem)), (40, av_qa (.ifCond .eq 22) 62), (43, av_q (.aload_n 0)), (44, av_qf (.getfield 19) 3 6 2), (47, av_q (.iload_n 3)), (48, av_q (.baload)), (49, av_q (.aload_n 0)), (50, av_qf (.getfield 19) 3 6 2), (53, av_q (.iload_n 3)), (54, av_q (.iload_n 1)), (55, av_q (.isub)), (56, av_q (.baload)), (57, av_qa (.if_icmp .eq 5) 62), (60, av_q (.iconst 1)), (61, av_qa (.ireturn) 1), (62, av_q (.iinc 3 1)), (65, av_qa (.goto (-51)) 14), (68, av_q (.iconst 0)), (69, av_qa (.ireturn) 1)]
def cd_60 : List (Nat × av_E) := [(0, av_q (.iconst 0)), (1, av_q (.istore_n 1)), (2, av_q (.iconst 0)), (3, av_q (.istore_n 2)), (4, av_q (.iload_n 2)), (5, av_q (.aload_n 0)), (6, av_qf (.getfield 49) 3 1 2), (9, av_qf (.getfield 122) 0 12 2), (12, av_qf (.getfield 82) 1 3 0), (15, av_qa (.if_icmp .ge 25) 40), (18, av_q (.iload_n 1)), (19, av_q (.aload_n 0)), (20, av_q (.iload_n 2)), (21, av_qc (.invokevirtual 147) 62 1 0 3), (24, av_qa (.ifCond .eq 7) 31), (27, av_q (.iconst 1)), (28, av_qa (.goto 4) 32), (31, av_q (.iconst 0)), (32, av_q (.iadd)), (33, av_q (.istore_n 1)), (34, av_q (.iinc 2 1)), (37, av_qa (.goto (-33)) 4), (40, av_q (.iload_n 1)), (41, av_q (.ireturn))]
def cd_61 : List (Nat × av_E) := [(0, av_q (.iconst 0)), (1, av_q (.istore_n 1)), (2, av_q (.iload_n 1)), (3, av_q (.aload_n 0)), (4, av_qf (.getfield 49) 3 1 2), (7, av_qf (.getfield 122) 0 12 2), (10, av_qf (.getfield 82) 1 3 0), (13, av_qa (.if_icmp .ge 19) 32), (16, av_q (.aload_n 0)), (17, av_q (.iload_n 1)), (18, av_qc (.invokevirtual 147) 62 1 0 3), (21, av_qa (.ifCond .eq 5) 26), (24, av_q (.iload_n 1)), (25, av_q (.ireturn)), (26, av_q (.iinc 1 1)), (29, av_qa (.goto (-27)) 2), (32, av_q (.iconst (-1))), (33, av_q (.ireturn))]
def cd_62 : List (Nat × av_E) := [(0, av_q (.aload_n 0)), (1, av_qf (.getfield 49) 3 1 2), (4, av_q (.iload_n 1)), (5, av_qc (.invokevirtual 89) 2 1 0 0), (8, av_q (.pop)), (9, av_q (.aload_n 0)), (10, av_qf (.getfield 53) 3 2 2), (13, av_q (.iload_n 1)), (14, av_qc (.invokevirtual 89) 2 1 0 0), (17, av_q (.pop)), (18, av_q (.aload_n 0)), (19, av_qf (.getfield 49) 3 1 2), (22, av_qf (.getfield 132) 0 15 0), (25, av_q (.aload_n 0)), (26, av_qf (.getfield 53) 3 2 2), (29, av_qf (.getfield 132) 0 15 0), (32, av_qa (.if_icmp .eq 5) 37), (35, av_q (.iconst 1)), (36, av_qa (.ireturn) 1), (37, av_q (.iconst 0)), (38, av_q (.istore_n 2)), (39, av_q (.iload_n 2)), (40, av_q (.iconst 5)), (41, av_qa (.if_icmp .ge 40) 81), (44, av_q (.aload_n 0)), (45, av_qf (.getfield 49) 3 1 2), (48, av_qc (.invokevirtual 150) 3 0 0 0), (51, av_qa (.ifCond .eq 30) 81), (54, av_q (.aload_n 0)), (55, av_qf (.getfield 49) 3 1 2), (58, av_q (.iload_n 2)), (59, av_qc (.invokevirtual 154) 17 1 0 0), (62, av_q (.aload_n 0)), (63, av_qf (.getfield 53) 3 2 2), (66, av_q (.iload_n 2)), (67, av_qc (.invokevirtual 154) 17 1 0 0), (70, av_qa (.if_icmp .eq 5) 75), (73, av_q (.iconst 1)), (74, av_qa (.ireturn) 1), (75, av_q (.iinc 2 1)), (78, av_qa (.goto (-39)) 39), (81, av_q (.iconst 0)), (82, av_qa (.ireturn) 1)]
def cd_63 : List (Nat × av_E) := [(0, av_q (.aload_n 0)), (1, av_qf (.getfield 28) 3 9 0), (4, av_q (.istore 4)), (6, av_q (.iconst 0)), (7, av_q (.istore 5)), (9, av_q (.iload 5)), (11, av_q (.aload_n 0)), (12, av_qf (.getfield 40) 3 0 2), (15, av_qf (.getfield 158) 5 4 0), (18, av_qa (.if_icmp .ge 125) 143), (21, av_q (.aload_n 0)), (22, av_qf (.getfield 40) 3 0 2), (25, av_q (.iload 4)), (27, av_qc (.invokevirtual 93) 70 1 0 5), (30, av_qa (.ifCond .eq 8) 38), (33, av_q (.iload 4)), (35, av_qa (.goto 4) 39), (38, av_q (.iconst 0)), (39, av_q (.istore 4)), (41, av_q (.aload_n 0)), (42, av_qf (.getfield 40) 3 0 2), (45, av_q (.aload_n 0)), (46, av_qf (.getfield 22) 3 7 2), (49, av_q (.iload 4)), (51, av_q (.iload_n 3)), (52, av_qc (.invokevirtual 161) 75 3 0 5), (55, av_q (.aload_n 0)), (56, av_qf (.getfield 11) 3 4 2), (59, av_q (.sipush 128)), (62, av_q (.sipush 144)), (65, av_q (.iconst 0)), (66, av_qc (.invokestatic 126) 221 4 2 10), (69, av_q (.aload_n 0)), (70, av_q (.aload_n 1)), (71, av_q (.iload_n 2)), (72, av_q (.aload_n 0)), (73, av_qf (.getfield 22) 3 7 2), (76, av_q (.sipush 128)), (79, av_qc (.invokevirtual 100) 52 4 0 3), (82, av_q (.aload_n 0)), (83, av_qf (.getfield 49) 3 1 2), (86, av_q (.aload_n 1)), (87, av_q (.aload_n 0)), (88, av_qf (.getfield 22) 3 7 2), (91, av_q (.aload_n 0)), (92, av_qf (.getfield 11) 3 4 2), (95, av_q (.sipush 128)), (98, av_qc (.invokevirtual 64) 1 4 0 0), (101, av_q (.aload_n 0)), (102, av_qf (.getfield 49) 3 1 2), (105, av_q (.aload_n 0)), (106, av_qf (.getfield 32) 3 10 0), (109, av_qc (.invokestatic 108) 55 2 2 3), (112, av_q (.istore 6)), (114, av_q (.iload 6)), (116, av_q (.iconst (-1))), (117, av_qa (.if_icmp .eq 17) 134), (120, av_q (.aload_n 0)), (121, av_q (.iload 4)), (123, av_qf (.putfield 28) 3 9 0), (126, av_q (.aload_n 0)), (127, av_q (.iload 6)), (129, av_qf (.putfield 32) 3 10 0), (132, av_q (.iconst 0)), (133, av_qa (.ireturn) 1), (134, av_q (.iinc 4 1)), (137, av_q (.iinc 5 1)), (140, av_qa (.goto (-131)) 9), (143, av_q (.iconst 1)), (144, av_qa (.ireturn) 1)]
def cd_64 : List (Nat × av_E) := [(0, av_q (.aload_n 0)), (1, av_qa (.invokespecial 3) 1000), (4, av_q (.aload_n 0)), (5, av_q (.bipush 14)), (7, av_q (.newarray .int)), (9, av_qf (.putfield 9) 4 1 2), (12, av_q (.aload_n 0)), (13, av_q (.aload_n 1)), (14, av_qf (.putfield 15) 4 0 2), (17, av_q (.return_))]
def cd_65 : List (Nat × av_E) := [(0, av_q (.aload_n 0)), (1, av_qf (.getfield 9) 4 1 2), (4, av_q (.bipush (-2))), (6, av_qc (.invokestatic 19) 220 2 2 10), (9, av_q (.iconst 0)), (10, av_q (.istore_n 2)), (11, av_q (.iconst 0)), (12, av_q (.istore_n 3)), (13, av_q (.iload_n 3)), (14, av_q (.bipush 20)), (16, av_qa (.if_icmp .gt 42) 58), (19, av_q (.aload_n 0)), (20, av_qf (.getfield 15) 4 0 2), (23, av_qc (.invokevirtual 25) 84 0 0 6), (26, av_qa (.ifCond .eq 32) 58), (29, av_q (.iload_n 3)), (30, av_q (.bipush 20)), (32, av_qa (.if_icmp .ne 13) 45), (35, av_q (.aload_n 0)), (36, av_qf (.getfield 15) 4 0 2), (39, av_qc (.invokevirtual 31) 85 0 0 6), (42, av_qa (.goto 10) 52), (45, av_q (.aload_n 0)), (46, av_qc (.invokevirtual 34) 66 0 0 4), (49, av_q (.iinc 2 1)), (52, av_q (.iinc 3 1)), (55, av_qa (.goto (-42)) 13), (58, av_q (.iload_n 2)), (59, av_q (.iload_n 1)), (60, av_qa (.if_icmp .ge 10) 70), (63, av_q (.aload_n 0)), (64, av_qf (.getfield 15) 4 0 2), (67, av_qc (.invokevirtual 31) 85 0 0 6), (70, av_q (.aload_n 0)), (71, av_qf (.getfield 9) 4 1 2), (74, av_q (.bipush 13)), (76, av_q (.iload_n 2)), (77, av_q (.iastore)), (78, av_q (.aload_n 0)), (79, av_qf (.getfield 15) 4 0 2), (82, av_qf (.getfield 37) 6 6 0), (85, av_q (.iconst (-1))), (86, av_qa (.if_icmp .ne 7) 93), (89, av_q (.iconst 1)), (90, av_qa (.goto 4) 94), (93, av_q (.iconst 0)), (94, av_qa (.ireturn) 1)]
def cd_66 : List (Nat × av_E) := [(0, av_q (.aload_n 0)), (1, av_qf (.getfield 15) 4 0 2), (4, av_qs (.ldc 41) 12), (6, av_qc (.invokevirtual 43) 87 1 0 6), (9, av_qw (.tableswitch 257 0 10 #[59, 66, 84, 102, 120, 139, 160, 181, 200, 219, 238]) 59), (68, av_q (.aload_n 0)), (69, av_qc (.invokevirtual 47) 67 0 0 4), (72, av_qa (.goto 194) 266), (75, av_q (.aload_n 0)), (76, av_qf (.getfield 9) 4 1 2), (79, av_q (.iconst 3)), (80, av_q (.aload_n 0)), (81, av_qf (.getfield 15) 4 0 2), (84, av_qs (.ldc 50) 14), (86, av_qc (.invokevirtual 43) 87 1 0 6), (89, av_q (.iastore)), (90, av_qa (.goto 176) 266), (93, av_q (.aload_n 0)), (94, av_qf (.getfield 9) 4 1 2), (97, av_q (.iconst 4)), (98, av_q (.aload_n 0)), (99, av_qf (.getfield 15) 4 0 2), (102, av_qs (.ldc 50) 14), (104, av_qc (.invokevirtual 43) 87 1 0 6), (107, av_q (.iastore)), (108, av_qa (.goto 158) 266), (111, av_q (.aload_n 0)), (112, av_qf (.getfield 9) 4 1 2), (115, av_q (.iconst 5)), (116, av_q (.aload_n 0)), (117, av_qf (.getfield 15) 4 0 2), (120, av_qs (.ldc 50) 14), (122, av_qc (.invokevirtual 43) 87 1 0 6), (125, av_q (.iastore)), (126, av_qa (.goto 140) 266), (129, av_q (.aload_n 0)), (130, av_qf (.getfield 9) 4 1 2), (133, av_q (.bipush 6)), (135, av_q (.aload_n 0)), (136, av_qf (.getfield 15) 4 0 2), (139, av_qs (.ldc 52) 15), (141, av_qc (.invokevirtual 43) 87 1 0 6), (144, av_q (.iastore)), (145, av_qa (.goto 121) 266), (148, av_q (.aload_n 0)), (149, av_qf (.getfield 9) 4 1 2), (152, av_q (.bipush 7)), (154, av_q (.aload_n 0)), (155, av_qf (.getfield 15) 4 0 2), (158, av_q (.iconst 0)), (159, av_q (.sipush 999)), (162, av_qc (.invokevirtual 54) 92 2 0 6), (165, av_q (.iastore)), (166, av_qa (.goto 100) 266), (169, av_q (.aload_n 0)), (170, av_qf (.getfield 9) 4 1 2), (173, av_q (.bipush 8)), (175, av_q (.aload_n 0)), (176, av_qf (.getfield 15) 4 0 2), (179, av_q (.iconst 0)), (180, av_q (.sipush 999)), (183, av_qc (.invokevirtual 54) 92 2 0 6), (186, av_q (.iastore)), (187, av_qa (.goto 79) 266), (190, av_q (.aload_n 0)), (191, av_qf (.getfield 9) 4 1 2), (194, av_q (.bipush 9)), (196, av_q (.aload_n 0)), (197, av_qf (.getfield 15) 4 0 2), (200, av_qs (.ldc 58) 16), (202, av_qc (.invokevirtual 43) 87 1 0 6), (205, av_q (.iastore)), (206, av_qa (.goto 60) 266), (209, av_q (.aload_n 0)), (210, av_qf (.getfield 9) 4 1 2), (213, av_q (.bipush 10)), (215, av_q (.aload_n 0)), (216, av_qf (.getfield 15) 4 0 2), (219, av_qs (.ldc 60) 17), (221, av_qc (.invokevirtual 43) 87 1 0 6), (224, av_q (.iastore)), (225, av_qa (.goto 41) 266), (228, av_q (.aload_n 0)), (229, av_qf (.getfield 9) 4 1 2), (232, av_q (.bipush 11)), (234, av_q (.aload_n 0)), (235, av_qf (.getfield 15) 4 0 2), (238, av_qs (.ldc 62) 18), (240, av_qc (.invokevirtual 43) 87 1 0 6), (243, av_q (.iastore)), (244, av_qa (.goto 22) 266), (247, av_q (.aload_n 0)), (248, av_qf (.getfield 9) 4 1 2), (251, av_q (.bipush 12)), (253, av_q (.aload_n 0)), (254, av_qf (.getfield 15) 4 0 2), (257, av_qs (.ldc 64) 19), (259, av_qc (.invokevirtual 43) 87 1 0 6), (262, av_q (.iastore)), (263, av_qa (.goto 3) 266), (266, av_q (.aload_n 0)), (267, av_qf (.getfield 15) 4 0 2), (270, av_qc (.invokevirtual 66) 90 0 0 6), (273, av_q (.return_))]
def cd_67 : List (Nat × av_E) := [(0, av_q (.aload_n 0)), (1, av_qf (.getfield 15) 4 0 2), (4, av_qs (.ldc 69) 13), (6, av_qc (.invokevirtual 43) 87 1 0 6), (9, av_q (.istore_n 1)), (10, av_q (.aload_n 0)), (11, av_qf (.getfield 15) 4 0 2), (14, av_qs (.ldc 50) 14), (16, av_qc (.invokevirtual 43) 87 1 0 6), (19, av_q (.istore_n 2)), (20, av_q (.iconst 0)), (21, av_q (.istore_n 3)), (22, av_q (.iload_n 3)), (23, av_q (.iconst 2)), (24, av_qa (.if_icmp .gt 26) 50), (27, av_q (.iload_n 1)), (28, av_q (.iload_n 3)), (29, av_qa (.if_icmp .eq 8) 37), (32, av_q (.iload_n 1)), (33, av_q (.iconst 3)), (34, av_qa (.if_icmp .ne 10) 44), (37, av_q (.aload_n 0)), (38, av_qf (.getfield 9) 4 1 2), (41, av_q (.iload_n 3)), (42, av_q (.iload_n 2)), (43, av_q (.iastore)), (44, av_q (.iinc 3 1)), (47, av_qa (.goto (-25)) 22), (50, av_q (.return_))]
def cd_68 : List (Nat × av_E) := [(0, av_q (.aload_n 0)), (1, av_qa (.invokespecial 3) 1000), (4, av_q (.aload_n 0)), (5, av_q (.bipush 16)), (7, av_qa (.anewarray 9) 30), (10, av_qf (.putfield 11) 5 0 2), (13, av_q (.aload_n 0)), (14, av_q (.bipush 8)), (16, av_q (.bipush 14)), (18, av_q (.multianewarray 17 2)), (22, av_qf (.putfield 19) 5 1 2), (25, av_q (.aload_n 0)), (26, av_q (.bipush 6)), (28, av_q (.bipush 14)), (30, av_q (.multianewarray 17 2)), (34, av_qf (.putfield 22) 5 2 2), (37, av_q (.aload_n 0)), (38, av_q (.iconst 0)), (39, av_qf (.putfield 25) 5 3 0), (42, av_q (.aload_n 0)), (43, av_q (.iconst 0)), (44, av_qf (.putfield 29) 5 4 0), (47, av_q (.aload_n 0)), (48, av_q (.iconst 0)), (49, av_qf (.putfield 32) 5 5 0), (52, av_q (.return_))]
def cd_69 : List (Nat × av_E) := [(0, av_q (.iload_n 1)), (1, av_qa (.ifCond .lt 20) 21), (4, av_q (.iload_n 1)), (5, av_q (.aload_n 0)), (6, av_qf (.getfield 25) 5 3 0), (9, av_qa (.if_icmp .ge 12) 21), (12, av_q (.aload_n 0)), (13, av_qf (.getfield 11) 5 0 2), (16, av_q (.iload_n 1)), (17, av_q (.aaload)), (18, av_qa (.goto 4) 22), (21, av_q (.aconst_null)), (22, av_q (.areturn))]
def cd_70 : List (Nat × av_E) := [(0, av_q (.iload_n 1)), (1, av_qa (.ifCond .lt 15) 16), (4, av_q (.iload_n 1)), (5, av_q (.aload_n 0)), (6, av_qf (.getfield 29) 5 4 0), (9, av_qa (.if_icmp .ge 7) 16), (12, av_q (.iconst 1)), (13, av_qa (.goto 4) 17), (16, av_q (.iconst 0)), (17, av_qa (.ireturn) 1)]
def cd_71 : List (Nat × av_E) := [(0, av_q (.aload_n 0)), (1, av_qf (.getfield 25) 5 3 0), (4, av_q (.bipush 16)), (6, av_qa (.if_icmp .lt 5) 11), (9, av_q (.iconst (-1))), (10, av_q (.ireturn)), (11, av_q (.aload_n 0)), (12, av_qf (.getfield 11) 5 0 2), (15, av_q (.aload_n 0)), (16, av_qf (.getfield 25) 5 3 0), (19, av_q (.aload_n 1)), (20, av_q (.aastore)), (21, av_q (.aload_n 0)), (22, av_q (.dup)), (23, av_qf (.getfield 25) 5 3 0), (26, av_q (.iconst 1)), (27, av_q (.iadd)), (28, av_qf (.putfield 25) 5 3 0), (31, av_q (.aload_n 0)), (32, av_qf (.getfield 25) 5 3 0), (35, av_q (.iconst 1)), (36, av_q (.isub)), (37, av_q (.ireturn))]
def cd_72 : List (Nat × av_E) := [(0, av_q (.aload_n 0)), (1, av_qf (.getfield 29) 5 4 0), (4, av_q (.bipush 8)), (6, av_qa (.if_icmp .lt 5) 11), (9, av_q (.iconst (-1))), (10, av_q (.ireturn)), (11, av_q (.getstatic 35)), (14, av_q (.iconst 0)), (15, av_q (.aload_n 0)), (16, av_qf (.getfield 19) 5 1 2), (19, av_q (.aload_n 0)), (20, av_qf (.getfield 29) 5 4 0), (23, av_q (.aaload)), (24, av_q (.iconst 0)), (25, av_q (.bipush 14)), (27, av_qa (.invokestatic 39) 1003), (30, av_q (.aload_n 0)), (31, av_qf (.getfield 19) 5 1 2), (34, av_q (.aload_n 0)), (35, av_qf (.getfield 29) 5 4 0), (38, av_q (.aaload)), (39, av_q (.aload_n 1)), (40, av_qc (.invokestatic 45) 74 2 2 5), (43, av_q (.aload_n 0)), (44, av_q (.dup)), (45, av_qf (.getfield 29) 5 4 0), (48, av_q (.iconst 1)), (49, av_q (.iadd)), (50, av_qf (.putfield 29) 5 4 0), (53, av_q (.aload_n 0)), (54, av_qf (.getfield 29) 5 4 0), (57, av_q (.iconst 1)), (58, av_q (.isub)), (59, av_q (.ireturn))]
def cd_73 : List (Nat × av_E) := [(0, av_q (.aload_n 0)), (1, av_qf (.getfield 32) 5 5 0), (4, av_q (.bipush 6)), (6, av_qa (.if_icmp .lt 5) 11), (9, av_q (.iconst (-1))), (10, av_q (.ireturn)), (11, av_q (.aload_n 1)), (12, av_q (.iconst 0)), (13, av_q (.aload_n 0)), (14, av_qf (.getfield 22) 5 2 2), (17, av_q (.aload_n 0)), (18, av_qf (.getfield 32) 5 5 0), (21, av_q (.aaload)), (22, av_q (.iconst 0)), (23, av_q (.bipush 14)), (25, av_qa (.invokestatic 39) 1003), (28, av_q (.aload_n 0)), (29, av_q (.dup)), (30, av_qf (.getfield 32) 5 5 0), (33, av_q (.iconst 1)), (34, av_q (.iadd)), (35, av_qf (.putfield 32) 5 5 0), (38, av_q (.aload_n 0)), (39, av_qf (.getfield 32) 5 5 0), (42, av_q (.iconst 1)), (43, av_q (.isub)), (44, av_q (.ireturn))]
def cd_74 : List (Nat × av_E) := [(0, av_q (.iconst 0)), (1, av_q (.istore_n 2)), (2, av_q (.iload_n 2)), (3, av_q (.bipush 14)), (5, av_qa (.if_icmp .ge 23) 28), (8, av_q (.aload_n 1)), (9, av_q (.iload_n 2)), (10, av_q (.iaload)), (11, av_q (.bipush (-2))), (13, av_qa (.if_icmp .eq 9) 22), (16, av_q (.aload_n 0)), (17, av_q (.iload_n 2)), (18, av_q (.aload_n 1)), (19, av_q (.iload_n 2)), (20, av_q (.iaload)), (21, av_q (.iastore)), (22, av_q (.iinc 2 1)), (25, av_qa (.goto (-23)) 2), (28, av_q (.return_))]
def cd_75 : List (Nat × av_E) := [(0, av_q (.aload_n 0)), (1, av_q (.iload_n 2)), (2, av_qc (.invokevirtual 49) 70 1 0 5), (5, av_qa (.ifCond .ne 4) 9), (8, av_q (.return_)), (9, av_q (.aload_n 0)), (10, av_qf (.getfield 19) 5 1 2), (13, av_q (.iload_n 2)), (14, av_q (.aaload)), (15, av_q (.iconst 0)), (16, av_q (.aload_n 1)), (17, av_q (.iconst 0)), (18, av_q (.bipush 14)), (20, av_qa (.invokestatic 39) 1003), (23, av_q (.iconst 0)), (24, av_q (.istore 4)), (26, av_q (.iload 4)), (28, av_q (.aload_n 0)), (29, av_qf (.getfield 32) 5 5 0), (32, av_qa (.if_icmp .ge 30) 62), (35, av_q (.iload_n 3)), (36, av_q (.iload 4)), (38, av_q (.ishr)), (39, av_q (.iconst 1)), (40, av_q (.iand)), (41, av_q (.iconst 1)), (42, av_qa (.if_icmp .ne 14) 56), (45, av_q (.aload_n 1)), (46, av_q (.aload_n 0)), (47, av_qf (.getfield 22) 5 2 2), (50, av_q (.iload 4)), (52, av_q (.aaload)), (53, av_qc (.invokestatic 45) 74 2 2 5), (56, av_q (.iinc 4 1)), (59, av_qa (.goto (-33)) 26), (62, av_q (.return_))]
def cd_76 : List (Nat × av_E) := [(0, av_q (.iconst 0)), (1, av_q (.istore_n 1)), (2, av_q (.iconst 0)), (3, av_q (.istore_n 2)), (4, av_q (.iload_n 2)), (5, av_q (.aload_n 0)), (6, av_qf (.getfield 25) 5 3 0), (9, av_qa (.if_icmp .ge 30) 39), (12, av_q (.aload_n 0)), (13, av_q (.iload_n 2)), (14, av_qc (.invokevirtual 53) 69 1 0 5), (17, av_q (.astore_n 3)), (18, av_q (.iload_n 1)), (19, av_q (.aload_n 3)), (20, av_qa (.ifnonnull 7) 27), (23, av_q (.iconst 0)), (24, av_qa (.goto 7) 31), (27, av_q (.aload_n 3)), (28, av_qf (.getfield 57) 1 1 0), (31, av_q (.iadd)), (32, av_q (.istore_n 1)), (33, av_q (.iinc 2 1)), (36, av_qa (.goto (-32)) 4), (39, av_q (.iload_n 1)), (40, av_q (.ireturn))]
def cd_77 : List (Nat × av_E) := [(0, av_q (.aload_n 0)), (1, av_q (.aload_n 1)), (2, av_qf (.getfield 25) 5 3 0), (5, av_qf (.putfield 25) 5 3 0), (8, av_q (.aload_n 0)), (9, av_q (.aload_n 1)), (10, av_qf (.getfield 29) 5 4 0), (13, av_qf (.putfield 29) 5 4 0), (16, av_q (.aload_n 0)), (17, av_q (.aload_n 1)), (18, av_qf (.getfield 32) 5 5 0), (21, av_qf (.putfield 32) 5 5 0), (24, av_q (.iconst 0)), (25, av_q (.istore_n 2)), (26, av_q (.iload_n 2)), (27, av_q (.bipush 16)), (29, av_qa (.if_icmp .ge 21) 50), (32, av_q (.aload_n 0)), (33, av_qf (.getfield 11) 5 0 2), (36, av_q (.iload_n 2)), (37, av_q (.aload_n 1)), (38, av_qf (.getfield 11) 5 0 2), (41, av_q (.iload_n 2)), (42, av_q (.aaload)), (43, av_q (.aastore)), (44, av_q (.iinc 2 1)), (47, av_qa (.goto (-21)) 26), (50, av_q (.iconst 0)), (51, av_q (.istore_n 2)), (52, av_q (.iload_n 2)), (53, av_q (.bipush 8)), (55, av_qa (.if_icmp .ge 28) 83), (58, av_q (.aload_n 1)), (59, av_qf (.getfield 19) 5 1 2), (62, av_q (.iload_n 2)), (63, av_q (.aaload)), (64, av_q (.iconst 0)), (65, av_q (.aload_n 0)), (66, av_qf (.getfield 19) 5 1 2), (69, av_q (.iload_n 2)), (70, av_q (.aaload)), (71, av_q (.iconst 0)), (72, av_q (.bipush 14)), (74, av_qa (.invokestatic 39) 1003), (77, av_q (.iinc 2 1)), (80, av_qa (.goto (-28)) 52), (83, av_q (.iconst 0)), (84, av_q (.istore_n 2)), (85, av_q (.iload_n 2)), (86, av_q (.bipush 6)), (88, av_qa (.if_icmp .ge 28) 116), (91, av_q (.aload_n 1)), (92, av_qf (.getfield 22) 5 2 2), (95, av_q (.iload_n 2)), (96, av_q (.aaload)), (97, av_q (.iconst 0)), (98, av_q (.aload_n 0)), (99, av_qf (.getfield 22) 5 2 2), (102, av_q (.iload_n 2)), (103, av_q (.aaload)), (104, av_q (.iconst 0)), (105, av_q (.bipush 14)), (107, av_qa (.invokestatic 39) 1003), (110, av_q (.iinc 2 1)), (113, av_qa (.goto (-28)) 85), (116, av_q (.return_))]
def cd_78 : List (Nat × av_E) := [(0, av_q (.aload_n 0)), (1, av_qa (.invokespecial 3) 1000), (4, av_q (.aload_n 0)), (5, av_q (.sipush 900)), (8, av_q (.newarray .byte)), (10, av_qf (.putfield 11) 6 0 2), (13, av_q (.aload_n 0)), (14, av_q (.iconst 0)), (15, av_qf (.putfield 15) 6 1 0), (18, av_q (.aload_n 0)), (19, av_q (.iconst 0)), (20, av_qf (.putfield 19) 6 2 0), (23, av_q (.aload_n 0)), (24, av_q (.iconst 0)), (25, av_qf (.putfield 22) 6 3 0), (28, av_q (.aload_n 0)), (29, av_q (.iconst 0)), (30, av_qf (.putfield 25) 6 4 0), (33, av_q (.aload_n 0)), (34, av_q (.iconst 0)), (35, av_qf (.putfield 28) 6 5 0), (38, av_q (.aload_n 0)), (39, av_q (.iconst (-1))), (40, av_qf (.putfield 31) 6 6 0), (43, av_q (.return_))]
def cd_79 : List (Nat × av_E) := [(0, av_q (.bipush 24)), (2, av_q (.istore_n 2)), (3, av_q (.iload_n 2)), (4, av_qa (.ifCond .lt 42) 46), (7, av_q (.aload_n 0)), (8, av_qf (.getfield 15) 6 1 0), (11, av_q (.sipush 900)), (14, av_qa (.if_icmp .ge 32) 46), (17, av_q (.aload_n 0)), (18, av_qf (.getfield 11) 6 0 2), (21, av_q (.aload_n 0)), (22, av_qf (.getfield 15) 6 1 0), (25, av_q (.iload_n 1)), (26, av_q (.iload_n 2)), (27, av_q (.ishr)), (28, av_q (.i2b)), (29, av_q (.bastore)), (30, av_q (.aload_n 0)), (31, av_q (.dup)), (32, av_qf (.getfield 15) 6 1 0), (35, av_q (.iconst 1)), (36, av_q (.iadd)), (37, av_qf (.putfield 15) 6 1 0), (40, av_q (.iinc 2 (-8))), (43, av_qa (.goto (-40)) 3), (46, av_q (.return_))]
def cd_80 : List (Nat × av_E) := [(0, av_q (.iload_n 1)), (1, av_qa (.ifCond .lt 15) 16), (4, av_q (.iload_n 1)), (5, av_q (.aload_n 0)), (6, av_qf (.getfield 15) 6 1 0), (9, av_qa (.if_icmp .gt 7) 16), (12, av_q (.iconst 1)), (13, av_qa (.goto 4) 17), (16, av_q (.iconst 0)), (17, av_qa (.ireturn) 1)]
def cd_81 : List (Nat × av_E) := [(0, av_q (.aload_n 0)), (1, av_q (.aload_n 0)), (2, av_q (.iload_n 1)), (3, av_qc (.invokevirtual 34) 80 1 0 6), (6, av_qa (.ifCond .eq 7) 13), (9, av_q (.iload_n 1)), (10, av_qa (.goto 4) 14), (13, av_q (.iconst 0)), (14, av_qf (.putfield 19) 6 2 0), (17, av_q (.aload_n 0)), (18, av_q (.iconst 0)), (19, av_qf (.putfield 25) 6 4 0), (22, av_q (.aload_n 0)), (23, av_q (.iconst (-1))), (24, av_qf (.putfield 31) 6 6 0), (27, av_q (.aload_n 0)), (28, av_qc (.invokevirtual 38) 82 0 0 6), (31, av_q (.return_))]
def cd_82 : List (Nat × av_E) := [(0, av_q (.aload_n 0)), (1, av_qf (.getfield 25) 6 4 0), (4, av_q (.istore_n 1)), (5, av_q (.iload_n 1)), (6, av_q (.aload_n 0)), (7, av_qf (.getfield 19) 6 2 0), (10, av_qa (.if_icmp .ge 22) 32), (13, av_q (.aload_n 0)), (14, av_qf (.getfield 11) 6 0 2), (17, av_q (.iload_n 1)), (18, av_q (.baload)), (19, av_qc (.invokestatic 41) 83 1 2 6), (22, av_q (.iconst 4)), (23, av_qa (.if_icmp .ne 9) 32), (26, av_q (.iinc 1 1)), (29, av_qa (.goto (-24)) 5), (32, av_q (.aload_n 0)), (33, av_q (.iload_n 1)), (34, av_qf (.putfield 22) 6 3 0), (37, av_q (.aload_n 0)), (38, av_q (.iload_n 1)), (39, av_q (.aload_n 0)), (40, av_qf (.getfield 19) 6 2 0), (43, av_qa (.if_icmp .ge 15) 58), (46, av_q (.aload_n 0)), (47, av_qf (.getfield 11) 6 0 2), (50, av_q (.iload_n 1)), (51, av_q (.baload)), (52, av_qc (.invokestatic 41) 83 1 2 6), (55, av_qa (.goto 4) 59), (58, av_q (.iconst 0)), (59, av_qf (.putfield 28) 6 5 0), (62, av_q (.iload_n 1)), (63, av_q (.aload_n 0)), (64, av_qf (.getfield 19) 6 2 0), (67, av_qa (.if_icmp .ge 6) 73), (70, av_q (.iinc 1 1)), (73, av_q (.aload_n 0)), (74, av_qf (.getfield 28) 6 5 0), (77, av_q (.iconst 1)), (78, av_qa (.if_icmp .eq 11) 89), (81, av_q (.aload_n 0)), (82, av_qf (.getfield 28) 6 5 0), (85, av_q (.iconst 2)), (86, av_qa (.if_icmp .ne 33) 119), (89, av_q (.iload_n 1)), (90, av_q (.aload_n 0)), (91, av_qf (.getfield 19) 6 2 0), (94, av_qa (.if_icmp .ge 25) 119), (97, av_q (.aload_n 0)), (98, av_qf (.getfield 11) 6 0 2), (101, av_q (.iload_n 1)), (102, av_q (.baload)), (103, av_qc (.invokestatic 41) 83 1 2 6), (106, av_q (.aload_n 0)), (107, av_qf (.getfield 28) 6 5 0), (110, av_qa (.if_icmp .ne 9) 119), (113, av_q (.iinc 1 1)), (116, av_qa (.goto (-27)) 89), (119, av_q (.aload_n 0)), (120, av_q (.iload_n 1)), (121, av_qf (.putfield 25) 6 4 0), (124, av_q (.return_))]
def cd_83 : List (Nat × av_E) := [(0, av_q (.iload_n 0)), (1, av_q (.bipush 97)), (3, av_qa (.if_icmp .lt 11) 14), (6, av_q (.iload_n 0)), (7, av_q (.bipush 122)), (9, av_qa (.if_icmp .gt 5) 14), (12, av_q (.iconst 1)), (13, av_q (.ireturn)), (14, av_q (.iload_n 0)), (15, av_q (.bipush 48)), (17, av_qa (.if_icmp .lt 11) 28), (20, av_q (.iload_n 0)), (21, av_q (.bipush 57)), (23, av_qa (.if_icmp .gt 5) 28), (26, av_q (.iconst 2)), (27, av_q (.ireturn)), (28, av_q (.iload_n 0)), (29, av_q (.bipush 59)), (31, av_qa (.if_icmp .ne 5) 36), (34, av_q (.iconst 3)), (35, av_q (.ireturn)), (36, av_q (.iload_n 0)), (37, av_q (.bipush 32)), (39, av_qa (.if_icmp .eq 9) 48), (42, av_q (.iload_n 0)), (43, av_q (.bipush 10)), (45, av_qa (.if_icmp .ne 7) 52), (48, av_q (.iconst 4)), (49, av_qa (.goto 4) 53), (52, av_q (.iconst 5)), (53, av_q (.ireturn))]
def cd_84 : List (Nat × av_E) := [(0, av_q (.aload_n 0)), (1, av_qf (.getfield 31) 6 6 0), (4, av_q (.iconst (-1))), (5, av_qa (.if_icmp .ne 14) 19), (8, av_q (.aload_n 0)), (9, av_qf (.getfield 28) 6 5 0), (12, av_qa (.ifCond .eq 7) 19), (15, av_q (.iconst 1)), (16, av_qa (.goto 4) 20), (19, av_q (.iconst 0)), (20, av_qa (.ireturn) 1)]
def cd_85 : List (Nat × av_E) := [(0, av_q (.aload_n 0)), (1, av_qf (.getfield 31) 6 6 0), (4, av_q (.iconst (-1))), (5, av_qa (.if_icmp .ne 11) 16), (8, av_q (.aload_n 0)), (9, av_q (.aload_n 0)), (10, av_qf (.getfield 22) 6 3 0), (13, av_qf (.putfield 31) 6 6 0), (16, av_q (.return_))]
def cd_86 : List (Nat × av_E) := [(0, av_q (.aload_n 0)), (1, av_qf (.getfield 31) 6 6 0), (4, av_q (.iconst (-1))), (5, av_qa (.if_icmp .ne 11) 16), (8, av_q (.aload_n 0)), (9, av_qf (.getfield 28) 6 5 0), (12, av_q (.iconst 1)), (13, av_qa (.if_icmp .eq 5) 18), (16, av_q (.iconst (-1))), (17, av_q (.ireturn)), (18, av_q (.iconst 0)), (19, av_q (.istore_n 2)), (20, av_q (.aload_n 0)), (21, av_qf (.getfield 22) 6 3 0), (24, av_q (.istore_n 3)), (25, av_q (.iconst 1)), (26, av_q (.istore 4)), (28, av_q (.iconst 0)), (29, av_q (.istore 5)), (31, av_q (.iload 5)), (33, av_q (.aload_n 1)), (34, av_qa (.invokevirtual 45) 1005), (37, av_qa (.if_icmp .gt 101) 138), (40, av_q (.iload 5)), (42, av_q (.aload_n 1)), (43, av_qa (.invokevirtual 45) 1005), (46, av_qa (.if_icmp .ge 12) 58), (49, av_q (.aload_n 1)), (50, av_q (.iload 5)), (52, av_qa (.invokevirtual 50) 1006), (55, av_qa (.goto 5) 60), (58, av_q (.bipush 32)), (60, av_q (.istore 6)), (62, av_q (.iload 6)), (64, av_q (.bipush 32)), (66, av_qa (.if_icmp .eq 40) 106), (69, av_q (.iload 4)), (71, av_qa (.ifCond .eq 26) 97), (74, av_q (.iload_n 3)), (75, av_q (.aload_n 0)), (76, av_qf (.getfield 25) 6 4 0), (79, av_qa (.if_icmp .ge 18) 97), (82, av_q (.aload_n 0)), (83, av_qf (.getfield 11) 6 0 2), (86, av_q (.iload_n 3)), (87, av_q (.baload)), (88, av_q (.iload 6)), (90, av_qa (.if_icmp .ne 7) 97), (93, av_q (.iconst 1)), (94, av_qa (.goto 4) 98), (97, av_q (.iconst 0)), (98, av_q (.istore 4)), (100, av_q (.iinc 3 1)), (103, av_qa (.goto 29) 132), (106, av_q (.iload 4)), (108, av_qa (.ifCond .eq 13) 121), (111, av_q (.iload_n 3)), (112, av_q (.aload_n 0)), (113, av_qf (.getfield 25) 6 4 0), (116, av_qa (.if_icmp .ne 5) 121), (119, av_q (.iload_n 2)), (120, av_q (.ireturn)), (121, av_q (.iinc 2 1)), (124, av_q (.aload_n 0)), (125, av_qf (.getfield 22) 6 3 0), (128, av_q (.istore_n 3)), (129, av_q (.iconst 1)), (130, av_q (.istore 4)), (132, av_q (.iinc 5 1)), (135, av_qa (.goto (-104)) 31), (138, av_q (.iconst (-1))), (139, av_q (.ireturn))]
def cd_87 : List (Nat × av_E) := [(0, av_q (.aload_n 0)), (1, av_q (.aload_n 1)), (2, av_qc (.invokevirtual 54) 86 1 0 6), (5, av_q (.istore_n 2)), (6, av_q (.iload_n 2)), (7, av_q (.iconst (-1))), (8, av_qa (.if_icmp .ne 10) 18), (11, av_q (.aload_n 0)), (12, av_qc (.invokevirtual 58) 85 0 0 6), (15, av_qa (.goto 7) 22), (18, av_q (.aload_n 0)), (19, av_qc (.invokevirtual 38) 82 0 0 6), (22, av_q (.iload_n 2)), (23, av_q (.ireturn))]
def cd_88 : List (Nat × av_E) := [(0, av_q (.aload_n 0)), (1, av_q (.aload_n 1)), (2, av_qc (.invokevirtual 54) 86 1 0 6), (5, av_q (.iconst (-1))), (6, av_qa (.if_icmp .ne 5) 11), (9, av_q (.iconst 0)), (10, av_qa (.ireturn) 1), (11, av_q (.aload_n 0)), (12, av_qc (.invokevirtual 38) 82 0 0 6), (15, av_q (.iconst 1)), (16, av_qa (.ireturn) 1)]
def cd_89 : List (Nat × av_E) := [(0, av_q (.aload_n 0)), (1, av_q (.aload_n 1)), (2, av_qc (.invokevirtual 54) 86 1 0 6), (5, av_q (.iconst (-1))), (6, av_qa (.if_icmp .ne 10) 16), (9, av_q (.aload_n 0)), (10, av_qc (.invokevirtual 58) 85 0 0 6), (13, av_qa (.goto 7) 20), (16, av_q (.aload_n 0)), (17, av_qc (.invokevirtual 38) 82 0 0 6), (20, av_q (.return_))]
def cd_90 : List (Nat × av_E) := [(0, av_q (.aload_n 0)), (1, av_qf (.getfield 31) 6 6 0), (4, av_q (.iconst (-1))), (5, av_qa (.if_icmp .ne 18) 23), (8, av_q (.aload_n 0)), (9, av_qf (.getfield 28) 6 5 0), (12, av_q (.iconst 3)), (13, av_qa (.if_icmp .ne 10) 23), (16, av_q (.aload_n 0)), (17, av_qc (.invokevirtual 38) 82 0 0 6), (20, av_qa (.goto 7) 27), (23, av_q (.aload_n 0)), (24, av_qc (.invokevirtual 58) 85 0 0 6), (27, av_q (.return_))]
def cd_91 : List (Nat × av_E) := [(0, av_q (.aload_n 0)), (1, av_qf (.getfield 31) 6 6 0), (4, av_q (.iconst (-1))), (5, av_qa (.if_icmp .ne 24) 29), (8, av_q (.aload_n 0)), (9, av_qf (.getfield 28) 6 5 0), (12, av_q (.iconst 2)), (13, av_qa (.if_icmp .ne 16) 29), (16, av_q (.aload_n 0)), (17, av_qf (.getfield 25) 6 4 0), (20, av_q (.aload_n 0)), (21, av_qf (.getfield 22) 6 3 0), (24, av_q (.isub)), (25, av_q (.iconst 4)), (26, av_qa (.if_icmp .le 5) 31), (29, av_q (.iconst (-1))), (30, av_q (.ireturn)), (31, av_q (.iconst 0)), (32, av_q (.istore_n 1)), (33, av_q (.aload_n 0)), (34, av_qf (.getfield 22) 6 3 0), (37, av_q (.istore_n 2)), (38, av_q (.iload_n 2)), (39, av_q (.aload_n 0)), (40, av_qf (.getfield 25) 6 4 0), (43, av_qa (.if_icmp .ge 24) 67), (46, av_q (.iload_n 1)), (47, av_q (.bipush 10)), (49, av_q (.imul)), (50, av_q (.aload_n 0)), (51, av_qf (.getfield 11) 6 0 2), (54, av_q (.iload_n 2)), (55, av_q (.baload)), (56, av_q (.iadd)), (57, av_q (.bipush 48)), (59, av_q (.isub)), (60, av_q (.istore_n 1)), (61, av_q (.iinc 2 1)), (64, av_qa (.goto (-26)) 38), (67, av_q (.iload_n 1)), (68, av_q (.ireturn))]
def cd_92 : List (Nat × av_E) := [(0, av_q (.aload_n 0)), (1, av_qc (.invokevirtual 61) 91 0 0 6), (4, av_q (.istore_n 3)), (5, av_q (.iload_n 3)), (6, av_q (.iconst (-1))), (7, av_qa (.if_icmp .eq 13) 20), (10, av_q (.iload_n 3)), (11, av_q (.iload_n 1)), (12, av_qa (.if_icmp .lt 8) 20), (15, av_q (.iload_n 3)), (16, av_q (.iload_n 2)), (17, av_qa (.if_icmp .le 9) 26), (20, av_q (.aload_n 0)), (21, av_qc (.invokevirtual 58) 85 0 0 6), (24, av_q (.iconst (-1))), (25, av_q (.ireturn)), (26, av_q (.aload_n 0)), (27, av_qc (.invokevirtual 38) 82 0 0 6), (30, av_q (.iload_n 3)), (31, av_q (.ireturn))]
def cd_93 : List (Nat × av_E) := [(0, av_q (.aload_n 0)), (1, av_qa (.invokespecial 1) 1000), (4, av_q (.aload_n 0)), (5, av_qa (.new 7) 6), (8, av_q (.dup)), (9, av_qc (.invokespecial 9) 78 0 1 6), (12, av_qf (.putfield 10) 7 0 2), (15, av_q (.aload_n 0)), (16, av_qa (.new 16) 5), (19, av_q (.dup)), (20, av_qc (.invokespecial 18) 68 0 1 5), (23, av_qf (.putfield 19) 7 1 2), (26, av_q (.aload_n 0)), (27, av_q (.iconst 4)), (28, av_qa (.anewarray 16) 31), (31, av_qf (.putfield 23) 7 2 2), (34, av_q (.aload_n 0)), (35, av_qa (.new 27) 2), (38, av_q (.dup)), (39, av_q (.aload_n 0)), (40, av_qf (.getfield 10) 7 0 2), (43, av_qc (.invokespecial 29) 34 1 1 2), (46, av_qf (.putfield 32) 7 3 2), (49, av_q (.aload_n 0)), (50, av_qa (.new 36) 4), (53, av_q (.dup)), (54, av_q (.aload_n 0)), (55, av_qf (.getfield 10) 7 0 2), (58, av_qc (.invokespecial 38) 64 1 1 4), (61, av_qf (.putfield 39) 7 4 2), (64, av_q (.aload_n 0)), (65, av_qa (.new 43) 3), (68, av_q (.dup)), (69, av_q (.aload_n 0)), (70, av_qf (.getfield 19) 7 1 2), (73, av_qc (.invokespecial 45) 45 1 1 3), (76, av_qf (.putfield 48) 7 5 2), (79, av_q (.aload_n 0)), (80, av_qa (.new 52) 1), (83, av_q (.dup)), (84, av_q (.iconst 0)), (85, av_q (.newarray .int)), (87, av_q (.iconst 0)), (88, av_qc (.invokespecial 54) 27 2 1 1), (91, av_qf (.putfield 57) 7 6 2), (94, av_q (.aload_n 0)), (95, av_q (.iconst 0)), (96, av_qf (.putfield 61) 7 7 0), (99, av_q (.aload_n 0)), (100, av_q (.iconst (-1))), (101, av_qf (.putfield 65) 7 8 0), (104, av_q (.return_))]
def cd_94 : List (Nat × av_E) := [(0, av_q (.aload_n 0)), (1, av_qf (.getfield 10) 7 0 2), (4, av_qf (.getfield 68) 6 1 0), (7, av_q (.bipush 20)), (9, av_q (.iadd)), (10, av_q (.sipush 900)), (13, av_qa (.if_icmp .le 5) 18), (16, av_q (.iconst (-1))), (17, av_q (.ireturn)), (18, av_q (.aload_n 0)), (19, av_qf (.getfield 10) 7 0 2), (22, av_q (.iload_n 1)), (23, av_qc (.invokevirtual 71) 79 1 0 6), (26, av_q (.aload_n 0)), (27, av_qf (.getfield 10) 7 0 2), (30, av_q (.iload_n 2)), (31, av_qc (.invokevirtual 71) 79 1 0 6), (34, av_q (.aload_n 0)), (35, av_qf (.getfield 10) 7 0 2), (38, av_q (.iload_n 3)), (39, av_qc (.invokevirtual 71) 79 1 0 6), (42, av_q (.aload_n 0)), (43, av_qf (.getfield 10) 7 0 2), (46, av_q (.iload 4)), (48, av_qc (.invokevirtual 71) 79 1 0 6), (51, av_q (.aload_n 0)), (52, av_qf (.getfield 10) 7 0 2), (55, av_q (.iload 5)), (57, av_qc (.invokevirtual 71) 79 1 0 6), (60, av_q (.aload_n 0)), (61, av_qf (.getfield 10) 7 0 2), (64, av_qf (.getfield 68) 6 1 0), (67, av_q (.ireturn))]
def cd_95 : List (Nat × av_E) := [(0, av_q (.aload_n 0)), (1, av_qf (.getfield 10) 7 0 2), (4, av_q (.iload_n 1)), (5, av_qc (.invokevirtual 75) 80 1 0 6), (8, av_qa (.ifCond .ne 6) 14), (11, av_q (.bipush (-2))), (13, av_q (.ireturn)), (14, av_q (.aload_n 0)), (15, av_qf (.getfield 19) 7 1 2), (18, av_qf (.getfield 79) 5 3 0), (21, av_q (.bipush 16)), (23, av_qa (.if_icmp .lt 6) 29), (26, av_q (.bipush (-3))), (28, av_q (.ireturn)), (29, av_q (.aload_n 0)), (30, av_qf (.getfield 10) 7 0 2), (33, av_q (.iload_n 1)), (34, av_qc (.invokevirtual 82) 81 1 0 6), (37, av_q (.aload_n 0)), (38, av_qf (.getfield 32) 7 3 2), (41, av_q (.aload_n 0)), (42, av_qf (.getfield 57) 7 6 2), (45, av_q (.aload_n 0)), (46, av_qf (.getfield 19) 7 1 2), (49, av_qf (.getfield 79) 5 3 0), (52, av_qc (.invokevirtual 85) 35 2 0 2), (55, av_q (.astore_n 2)), (56, av_q (.aload_n 0)), (57, av_qc (.invokevirtual 89) 99 0 0 7), (60, av_q (.aload_n 2)), (61, av_qa (.ifnonnull 7) 68), (64, av_q (.iconst (-1))), (65, av_qa (.goto 11) 76), (68, av_q (.aload_n 0)), (69, av_qf (.getfield 19) 7 1 2), (72, av_q (.aload_n 2)), (73, av_qc (.invokevirtual 92) 71 1 0 5), (76, av_q (.ireturn))]
def cd_96 : List (Nat × av_E) := [(0, av_q (.aload_n 0)), (1, av_qf (.getfield 19) 7 1 2), (4, av_q (.iload_n 1)), (5, av_qc (.invokevirtual 96) 69 1 0 5), (8, av_q (.astore_n 3)), (9, av_q (.aload_n 3)), (10, av_qa (.ifnull 14) 24), (13, av_q (.aload_n 0)), (14, av_qf (.getfield 10) 7 0 2), (17, av_q (.iload_n 2)), (18, av_qc (.invokevirtual 75) 80 1 0 6), (21, av_qa (.ifCond .ne 6) 27), (24, av_q (.bipush (-2))), (26, av_q (.ireturn)), (27, av_q (.aload_n 0)), (28, av_qf (.getfield 10) 7 0 2), (31, av_q (.iload_n 2)), (32, av_qc (.invokevirtual 82) 81 1 0 6), (35, av_q (.aload_n 0)), (36, av_qf (.getfield 32) 7 3 2), (39, av_q (.aload_n 3)), (40, av_q (.iload_n 1)), (41, av_qc (.invokevirtual 85) 35 2 0 2), (44, av_q (.astore 4)), (46, av_q (.aload_n 0)), (47, av_qc (.invokevirtual 89) 99 0 0 7), (50, av_q (.aload 4)), (52, av_qa (.ifnonnull 5) 57), (55, av_q (.iconst (-1))), (56, av_q (.ireturn)), (57, av_q (.aload_n 0)), (58, av_qf (.getfield 19) 7 1 2), (61, av_qf (.getfield 100) 5 0 2), (64, av_q (.iload_n 1)), (65, av_q (.aload 4)), (67, av_q (.aastore)), (68, av_q (.aload_n 0)), (69, av_qf (.getfield 48) 7 5 2), (72, av_qc (.invokevirtual 104) 46 0 0 3), (75, av_q (.aload 4)), (77, av_qf (.getfield 107) 1 1 0), (80, av_q (.ireturn))]
def cd_97 : List (Nat × av_E) := [(0, av_q (.aload_n 0)), (1, av_qf (.getfield 10) 7 0 2), (4, av_q (.iload_n 1)), (5, av_qc (.invokevirtual 75) 80 1 0 6), (8, av_qa (.ifCond .ne 6) 14), (11, av_q (.bipush (-2))), (13, av_q (.ireturn)), (14, av_q (.aload_n 0)), (15, av_qf (.getfield 19) 7 1 2), (18, av_qf (.getfield 110) 5 4 0), (21, av_q (.bipush 8)), (23, av_qa (.if_icmp .lt 6) 29), (26, av_q (.bipush (-3))), (28, av_q (.ireturn)), (29, av_q (.aload_n 0)), (30, av_qf (.getfield 10) 7 0 2), (33, av_q (.iload_n 1)), (34, av_qc (.invokevirtual 82) 81 1 0 6), (37, av_q (.aload_n 0)), (38, av_qf (.getfield 39) 7 4 2), (41, av_q (.iconst 0)), (42, av_qc (.invokevirtual 113) 65 1 0 4), (45, av_q (.istore_n 2)), (46, av_q (.aload_n 0)), (47, av_qc (.invokevirtual 89) 99 0 0 7), (50, av_q (.iload_n 2)), (51, av_qa (.ifCond .eq 20) 71), (54, av_q (.aload_n 0)), (55, av_qf (.getfield 19) 7 1 2), (58, av_q (.aload_n 0)), (59, av_qf (.getfield 39) 7 4 2), (62, av_qf (.getfield 116) 4 1 2), (65, av_qc (.invokevirtual 120) 72 1 0 5), (68, av_qa (.goto 4) 72), (71, av_q (.iconst (-1))), (72, av_q (.ireturn))]
def cd_98 : List (Nat × av_E) := [(0, av_q (.aload_n 0)), (1, av_qf (.getfield 10) 7 0 2), (4, av_q (.iload_n 1)), (5, av_qc (.invokevirtual 75) 80 1 0 6), (8, av_qa (.ifCond .ne 6) 14), (11, av_q (.bipush (-2))), (13, av_q (.ireturn)), (14, av_q (.aload_n 0)), (15, av_qf (.getfield 19) 7 1 2), (18, av_qf (.getfield 124) 5 5 0), (21, av_q (.bipush 6)), (23, av_qa (.if_icmp .lt 6) 29), (26, av_q (.bipush (-3))), (28, av_q (.ireturn)), (29, av_q (.aload_n 0)), (30, av_qf (.getfield 10) 7 0 2), (33, av_q (.iload_n 1)), (34, av_qc (.invokevirtual 82) 81 1 0 6), (37, av_q (.aload_n 0)), (38, av_qf (.getfield 39) 7 4 2), (41, av_q (.iconst 1)), (42, av_qc (.invokevirtual 113) 65 1 0 4), (45, av_q (.istore_n 2)), (46, av_q (.aload_n 0)), (47, av_qc (.invokevirtual 89) 99 0 0 7), (50, av_q (.iload_n 2)), (51, av_qa (.ifCond .eq 20) 71), (54, av_q (.aload_n 0)), (55, av_qf (.getfield 19) 7 1 2), (58, av_q (.aload_n 0)), (59, av_qf (.getfield 39) 7 4 2), (62, av_qf (.getfield 116) 4 1 2), (65, av_qc (.invokevirtual 127) 73 1 0 5), (68, av_qa (.goto 4) 72), (71, av_q (.iconst (-1))), (72, av_q (.ireturn))]
def cd_99 : List (Nat × av_E) := [(0, av_q (.aload_n 0)), (1, av_q (.aload_n 0)), (2, av_qf (.getfield 10) 7 0 2), (5, av_qf (.getfield 130) 6 6 0), (8, av_qf (.putfield 65) 7 8 0), (11, av_q (.aload_n 0)), (12, av_qf (.getfield 10) 7 0 2), (15, av_q (.iconst 0)), (16, av_qf (.putfield 68) 6 1 0), (19, av_q (.return_))]
def cd_100 : List (Nat × av_E) := [(0, av_q (.aload_n 0)), (1, av_qf (.getfield 65) 7 8 0), (4, av_q (.ireturn))]
def cd_101 : List (Nat × av_E) := [(0, av_q (.aload_n 0)), (1, av_qf (.getfield 19) 7 1 2), (4, av_q (.iload_n 1)), (5, av_qc (.invokevirtual 96) 69 1 0 5), (8, av_q (.astore 4)), (10, av_q (.iload_n 3)), (11, av_qa (.ifCond .lt 9) 20), (14, av_q (.iload_n 3)), (15, av_q (.bipush 6)), (17, av_qa (.if_icmp .le 10) 27), (20, av_q (.iload_n 3)), (21, av_qc (.invokestatic 133) 102 1 2 7), (24, av_qa (.ifCond .eq 7) 31), (27, av_q (.iconst 1)), (28, av_qa (.goto 4) 32), (31, av_q (.iconst 0)), (32, av_q (.istore 5)), (34, av_q (.aload 4)), (36, av_qa (.ifnull 17) 53), (39, av_q (.aload 4)), (41, av_q (.iload_n 2)), (42, av_qc (.invokevirtual 136) 28 1 0 1), (45, av_qa (.ifCond .eq 8) 53), (48, av_q (.iload 5)), (50, av_qa (.ifCond .ne 6) 56), (53, av_q (.bipush (-2))), (55, av_q (.ireturn)), (56, av_q (.aload 4)), (58, av_q (.iload_n 2)), (59, av_q (.iload_n 3)), (60, av_qc (.invokevirtual 139) 29 2 0 1), (63, av_q (.ireturn))]
def cd_102 : List (Nat × av_E) := [(0, av_q (.iload_n 0)), (1, av_q (.bipush 10)), (3, av_qa (.if_icmp .lt 13) 16), (6, av_q (.iload_n 0)), (7, av_q (.bipush 15)), (9, av_qa (.if_icmp .ge 7) 16), (12, av_q (.iconst 1)), (13, av_qa (.goto 4) 17), (16, av_q (.iconst 0)), (17, av_qa (.ireturn) 1)]
def cd_103 : List (Nat × av_E) := [(0, av_q (.aload_n 0)), (1, av_qf (.getfield 19) 7 1 2), (4, av_q (.iload_n 1)), (5, av_qc (.invokevirtual 96) 69 1 0 5), (8, av_q (.astore_n 3)), (9, av_q (.aload_n 3)), (10, av_qa (.ifnonnull 6) 16), (13, av_q (.bipush (-2))), (15, av_q (.ireturn)), (16, av_q (.iload_n 2)), (17, av_qw (.tableswitch 42 0 2 #[27, 32, 37]) 27), (44, av_q (.aload_n 3)), (45, av_qf (.getfield 107) 1 1 0), (48, av_q (.ireturn)), (49, av_q (.aload_n 3)), (50, av_qf (.getfield 143) 1 2 0), (53, av_q (.ireturn)), (54, av_q (.aload_n 3)), (55, av_qf (.getfield 146) 1 3 0), (58, av_q (.ireturn)), (59, av_q (.bipush (-2))), (61, av_q (.ireturn))]
def cd_104 : List (Nat × av_E) := [(0, av_q (.aload_n 0)), (1, av_qf (.getfield 19) 7 1 2), (4, av_q (.iload_n 1)), (5, av_qc (.invokevirtual 96) 69 1 0 5), (8, av_q (.astore 5)), (10, av_q (.aload 5)), (12, av_qa (.ifnull 36) 48), (15, av_q (.aload 5)), (17, av_q (.iload_n 3)), (18, av_qc (.invokevirtual 136) 28 1 0 1), (21, av_qa (.ifCond .eq 27) 48), (24, av_q (.iload_n 2)), (25, av_qa (.ifCond .lt 23) 48), (28, av_q (.iload_n 2)), (29, av_q (.aload 5)), (31, av_qf (.getfield 146) 1 3 0), (34, av_qa (.if_icmp .ge 14) 48), (37, av_q (.iload 4)), (39, av_qa (.ifCond .lt 9) 48), (42, av_q (.iload 4)), (44, av_q (.iconst 2)), (45, av_qa (.if_icmp .le 6) 51), (48, av_q (.bipush (-2))), (50, av_q (.ireturn)), (51, av_q (.aload_n 0)), (52, av_qf (.getfield 48) 7 5 2), (55, av_q (.aload 5)), (57, av_q (.iload_n 2)), (58, av_q (.iload_n 3)), (59, av_q (.iload 4)), (61, av_qc (.invokevirtual 149) 47 4 0 3), (64, av_q (.ireturn))]
def cd_105 : List (Nat × av_E) := [(0, av_q (.aload_n 0)), (1, av_qf (.getfield 19) 7 1 2), (4, av_q (.iload_n 1)), (5, av_qc (.invokevirtual 153) 70 1 0 5), (8, av_qa (.ifCond .eq 13) 21), (11, av_q (.iload_n 2)), (12, av_qa (.ifCond .lt 9) 21), (15, av_q (.iload_n 2)), (16, av_q (.bipush 14)), (18, av_qa (.if_icmp .lt 6) 24), (21, av_q (.bipush (-2))), (23, av_q (.ireturn)), (24, av_q (.aload_n 0)), (25, av_qf (.getfield 19) 7 1 2), (28, av_qf (.getfield 156) 5 1 2), (31, av_q (.iload_n 1)), (32, av_q (.aaload)), (33, av_q (.iload_n 2)), (34, av_q (.iaload)), (35, av_q (.ireturn))]
def cd_106 : List (Nat × av_E) := [(0, av_q (.iload 4)), (2, av_qa (.ifCond .lt 9) 11), (5, av_q (.iload 4)), (7, av_q (.iconst 2)), (8, av_qa (.if_icmp .le 11) 19), (11, av_q (.iload 4)), (13, av_qc (.invokestatic 133) 102 1 2 7), (16, av_qa (.ifCond .eq 7) 23), (19, av_q (.iconst 1)), (20, av_qa (.goto 4) 24), (23, av_q (.iconst 0)), (24, av_q (.istore 5)), (26, av_q (.iload 5)), (28, av_qa (.ifCond .eq 16) 44), (31, av_q (.aload_n 0)), (32, av_qf (.getfield 48) 7 5 2), (35, av_q (.iload_n 1)), (36, av_q (.iload_n 2)), (37, av_q (.iload_n 3)), (38, av_qc (.invokevirtual 160) 48 3 0 3), (41, av_qa (.ifCond .ne 6) 47), (44, av_q (.bipush (-3))), (46, av_q (.ireturn)), (47, av_q (.aload_n 0)), (48, av_qf (.getfield 48) 7 5 2), (51, av_qf (.getfield 164) 3 1 2), (54, av_q (.astore 6)), (56, av_q (.aload 6)), (58, av_qc (.invokevirtual 168) 3 0 0 0), (61, av_qa (.ifCond .ne 6) 67), (64, av_q (.bipush (-2))), (66, av_q (.ireturn)), (67, av_q (.iload 4)), (69, av_qw (.tableswitch 45 0 2 #[27, 33, 39]) 27), (96, av_q (.aload 6)), (98, av_qf (.getfield 174) 0 13 0), (101, av_q (.ireturn)), (102, av_q (.aload 6)), (104, av_qf (.getfield 177) 0 14 0), (107, av_q (.ireturn)), (108, av_q (.aload 6)), (110, av_qf (.getfield 180) 0 15 0), (113, av_q (.ireturn)), (114, av_q (.aload 6)), (116, av_q (.iload 4)), (118, av_q (.bipush 10)), (120, av_q (.isub)), (121, av_qc (.invokevirtual 183) 17 1 0 0), (124, av_q (.ireturn))]
def cd_107 : List (Nat × av_E) := [(0, av_q (.iload 5)), (2, av_qa (.ifCond .lt 37) 39), (5, av_q (.iload 5)), (7, av_q (.iconst 2)), (8, av_qa (.if_icmp .gt 31) 39), (11, av_q (.aload_n 0)), (12, av_qf (.getfield 48) 7 5 2), (15, av_q (.iload_n 1)), (16, av_q (.iload_n 2)), (17, av_q (.iload_n 3)), (18, av_qc (.invokevirtual 160) 48 3 0 3), (21, av_qa (.ifCond .eq 18) 39), (24, av_q (.aload_n 0)), (25, av_qf (.getfield 48) 7 5 2), (28, av_qf (.getfield 164) 3 1 2), (31, av_q (.iload 4)), (33, av_qc (.invokevirtual 187) 15 1 0 0), (36, av_qa (.ifCond .ne 6) 42), (39, av_q (.bipush (-2))), (41, av_q (.ireturn)), (42, av_q (.iload 5)), (44, av_qw (.lookupswitch 56 #[(0, 28), (1, 42)]) 28), (72, av_q (.aload_n 0)), (73, av_qf (.getfield 48) 7 5 2), (76, av_qf (.getfield 164) 3 1 2), (79, av_qf (.getfield 190) 0 5 2), (82, av_q (.iload 4)), (84, av_q (.iaload)), (85, av_q (.ireturn)), (86, av_q (.aload_n 0)), (87, av_qf (.getfield 48) 7 5 2), (90, av_qf (.getfield 164) 3 1 2), (93, av_qf (.getfield 193) 0 6 2), (96, av_q (.iload 4)), (98, av_q (.iaload)), (99, av_q (.ireturn)), (100, av_q (.aload_n 0)), (101, av_qf (.getfield 48) 7 5 2), (104, av_qf (.getfield 164) 3 1 2), (107, av_qf (.getfield 196) 0 7 2), (110, av_q (.iload 4)), (112, av_q (.iaload)), (113, av_q (.ireturn))]
def cd_108 : List (Nat × av_E) := [(0, av_q (.aload_n 0)), (1, av_qf (.getfield 48) 7 5 2), (4, av_q (.iload_n 1)), (5, av_q (.iload_n 2)), (6, av_q (.iload_n 3)), (7, av_qc (.invokevirtual 160) 48 3 0 3), (10, av_qa (.ifCond .ne 6) 16), (13, av_q (.bipush (-2))), (15, av_q (.ireturn)), (16, av_q (.aload_n 0)), (17, av_qf (.getfield 48) 7 5 2), (20, av_qf (.getfield 164) 3 1 2), (23, av_qc (.invokevirtual 199) 18 0 0 0), (26, av_q (.ireturn))]
def cd_109 : List (Nat × av_E) := [(0, av_q (.iload_n 3)), (1, av_qa (.ifCond .lt 20) 21), (4, av_q (.iload_n 3)), (5, av_q (.iconst 5)), (6, av_qa (.if_icmp .ge 15) 21), (9, av_q (.aload_n 0)), (10, av_qf (.getfield 48) 7 5 2), (13, av_q (.iload_n 1)), (14, av_q (.iload_n 2)), (15, av_qc (.invokevirtual 203) 49 2 0 3), (18, av_qa (.ifCond .ne 6) 24), (21, av_q (.bipush (-2))), (23, av_q (.ireturn)), (24, av_q (.aload_n 0)), (25, av_qf (.getfield 48) 7 5 2), (28, av_qc (.invokevirtual 207) 56 0 0 3), (31, av_q (.aload_n 0)), (32, av_qf (.getfield 48) 7 5 2), (35, av_qf (.getfield 210) 3 8 2), (38, av_q (.iload_n 3)), (39, av_q (.iaload)), (40, av_q (.ireturn))]
def cd_110 : List (Nat × av_E) := [(0, av_q (.aload_n 0)), (1, av_qf (.getfield 48) 7 5 2), (4, av_q (.iload_n 1)), (5, av_q (.iload_n 2)), (6, av_qc (.invokevirtual 203) 49 2 0 3), (9, av_qa (.ifCond .eq 21) 30), (12, av_q (.aload_n 0)), (13, av_qf (.getfield 48) 7 5 2), (16, av_qf (.getfield 164) 3 1 2), (19, av_qf (.getfield 213) 0 12 2), (22, av_qf (.getfield 143) 1 2 0), (25, av_q (.bipush 12)), (27, av_qa (.if_icmp .le 6) 33), (30, av_q (.bipush (-2))), (32, av_q (.ireturn)), (33, av_q (.aload_n 0)), (34, av_qf (.getfield 48) 7 5 2), (37, av_qc (.invokevirtual 216) 58 0 0 3), (40, av_q (.ireturn))]
def cd_111 : List (Nat × av_E) := [(0, av_q (.iload 4)), (2, av_qa (.ifCond .lt 16) 18), (5, av_q (.aload_n 0)), (6, av_qf (.getfield 48) 7 5 2), (9, av_q (.iload_n 1)), (10, av_q (.iload_n 2)), (11, av_q (.iload_n 3)), (12, av_qc (.invokevirtual 160) 48 3 0 3), (15, av_qa (.ifCond .ne 6) 21), (18, av_q (.bipush (-2))), (20, av_q (.ireturn)), (21, av_q (.aload_n 0)), (22, av_qf (.getfield 48) 7 5 2), (25, av_qf (.getfield 164) 3 1 2), (28, av_q (.iload 4)), (30, av_qc (.invokevirtual 219) 19 1 0 0), (33, av_q (.ireturn))]
def cd_112 : List (Nat × av_E) := [(0, av_q (.aload_n 0)), (1, av_qf (.getfield 48) 7 5 2), (4, av_q (.iload_n 1)), (5, av_q (.iload_n 2)), (6, av_q (.iload_n 3)), (7, av_qc (.invokevirtual 160) 48 3 0 3), (10, av_qa (.ifCond .ne 6) 16), (13, av_q (.bipush (-2))), (15, av_q (.ireturn)), (16, av_q (.aload_n 0)), (17, av_qf (.getfield 48) 7 5 2), (20, av_qf (.getfield 164) 3 1 2), (23, av_q (.astore 6)), (25, av_q (.iload 4)), (27, av_q (.bipush (-2))), (29, av_qa (.if_icmp .eq 7) 36), (32, av_q (.iconst 1)), (33, av_qa (.goto 4) 37), (36, av_q (.iconst 0)), (37, av_q (.istore 7)), (39, av_q (.iload 7)), (41, av_q (.aload 6)), (43, av_qc (.invokevirtual 168) 3 0 0 0), (46, av_qa (.if_icmp .eq 5) 51), (49, av_q (.iconst 0)), (50, av_q (.ireturn)), (51, av_q (.iload 7)), (53, av_qa (.ifCond .ne 5) 58), (56, av_q (.iconst (-1))), (57, av_q (.ireturn)), (58, av_q (.iload 4)), (60, av_q (.aload 6)), (62, av_qf (.getfield 174) 0 13 0), (65, av_qa (.if_icmp .eq 5) 70), (68, av_q (.iconst 1)), (69, av_q (.ireturn)), (70, av_q (.iload 5)), (72, av_q (.aload 6)), (74, av_qf (.getfield 180) 0 15 0), (77, av_qa (.if_icmp .ne 7) 84), (80, av_q (.iconst (-1))), (81, av_qa (.goto 4) 85), (84, av_q (.iconst 2)), (85, av_q (.ireturn))]
def cd_113 : List (Nat × av_E) := [(0, av_q (.iload 4)), (2, av_qa (.ifCond .lt 22) 24), (5, av_q (.iload 4)), (7, av_q (.iconst 1)), (8, av_qa (.if_icmp .gt 16) 24), (11, av_q (.aload_n 0)), (12, av_qf (.getfield 48) 7 5 2), (15, av_q (.iload_n 1)), (16, av_q (.iload_n 2)), (17, av_q (.iload_n 3)), (18, av_qc (.invokevirtual 222) 50 3 0 3), (21, av_qa (.ifCond .ne 6) 27), (24, av_q (.bipush (-2))), (26, av_q (.ireturn)), (27, av_q (.iload 4)), (29, av_qa (.ifCond .ne 13) 42), (32, av_q (.aload_n 0)), (33, av_qf (.getfield 48) 7 5 2), (36, av_qc (.invokevirtual 225) 60 0 0 3), (39, av_qa (.goto 10) 49), (42, av_q (.aload_n 0)), (43, av_qf (.getfield 48) 7 5 2), (46, av_qc (.invokevirtual 228) 61 0 0 3), (49, av_q (.ireturn))]
def cd_114 : List (Nat × av_E) := [(0, av_q (.aload_n 0)), (1, av_qf (.getfield 19) 7 1 2), (4, av_q (.iload_n 1)), (5, av_qc (.invokevirtual 153) 70 1 0 5), (8, av_qa (.ifCond .eq 14) 22), (11, av_q (.aload_n 0)), (12, av_qf (.getfield 19) 7 1 2), (15, av_q (.iload_n 2)), (16, av_qc (.invokevirtual 153) 70 1 0 5), (19, av_qa (.ifCond .ne 6) 25), (22, av_q (.bipush (-2))), (24, av_q (.ireturn)), (25, av_q (.iconst (-1))), (26, av_q (.istore_n 3)), (27, av_q (.bipush 13)), (29, av_q (.istore 4)), (31, av_q (.iconst 0)), (32, av_q (.istore 5)), (34, av_q (.iload 5)), (36, av_q (.aload_n 0)), (37, av_qf (.getfield 19) 7 1 2), (40, av_qf (.getfield 79) 5 3 0), (43, av_qa (.if_icmp .ge 82) 125), (46, av_q (.aload_n 0)), (47, av_qf (.getfield 19) 7 1 2), (50, av_q (.iload 5)), (52, av_qc (.invokevirtual 96) 69 1 0 5), (55, av_q (.astore 6)), (57, av_q (.aload 6)), (59, av_qa (.ifnull 17) 76), (62, av_q (.aload 6)), (64, av_qf (.getfield 107) 1 1 0), (67, av_q (.iload 4)), (69, av_qa (.if_icmp .ge 7) 76), (72, av_q (.iconst 1)), (73, av_qa (.goto 4) 77), (76, av_q (.iconst 0)), (77, av_q (.istore 7)), (79, av_q (.iload 7)), (81, av_qa (.ifCond .eq 38) 119), (84, av_q (.aload_n 0)), (85, av_qf (.getfield 48) 7 5 2), (88, av_q (.iload 5)), (90, av_q (.iload_n 1)), (91, av_q (.iload_n 2)), (92, av_qc (.invokevirtual 222) 50 3 0 3), (95, av_qa (.ifCond .eq 24) 119), (98, av_q (.aload_n 0)), (99, av_qf (.getfield 48) 7 5 2), (102, av_qc (.invokevirtual 228) 61 0 0 3), (105, av_q (.iconst (-1))), (106, av_qa (.if_icmp .eq 13) 119), (109, av_q (.iload 5)), (111, av_q (.istore_n 3)), (112, av_q (.aload 6)), (114, av_qf (.getfield 107) 1 1 0), (117, av_q (.istore 4)), (119, av_q (.iinc 5 1)), (122, av_qa (.goto (-88)) 34), (125, av_q (.iload_n 3)), (126, av_q (.ireturn))]
def cd_115 : List (Nat × av_E) := [(0, av_q (.aload_n 0)), (1, av_qf (.getfield 19) 7 1 2), (4, av_q (.iload_n 1)), (5, av_qc (.invokevirtual 96) 69 1 0 5), (8, av_q (.astore_n 2)), (9, av_q (.aload_n 2)), (10, av_qa (.ifnull 21) 31), (13, av_q (.aload_n 2)), (14, av_qf (.getfield 146) 1 3 0), (17, av_q (.iconst (-1))), (18, av_qa (.if_icmp .eq 13) 31), (21, av_q (.aload_n 0)), (22, av_qf (.getfield 19) 7 1 2), (25, av_qf (.getfield 110) 5 4 0), (28, av_qa (.ifCond .ne 6) 34), (31, av_q (.bipush (-2))), (33, av_q (.ireturn)), (34, av_q (.iconst 1)), (35, av_q (.aload_n 0)), (36, av_qf (.getfield 19) 7 1 2), (39, av_qf (.getfield 124) 5 5 0), (42, av_q (.ishl)), (43, av_q (.istore_n 3)), (44, av_q (.iconst 0)), (45, av_q (.istore 4)), (47, av_q (.iload 4)), (49, av_q (.aload_n 0)), (50, av_qf (.getfield 19) 7 1 2), (53, av_qf (.getfield 124) 5 5 0), (56, av_qa (.if_icmp .gt 51) 107), (59, av_q (.iconst 0)), (60, av_q (.istore 5)), (62, av_q (.iload 5)), (64, av_q (.iload_n 3)), (65, av_qa (.if_icmp .ge 36) 101), (68, av_q (.iload 5)), (70, av_qc (.invokestatic 231) 218 1 2 11), (73, av_q (.iload 4)), (75, av_qa (.if_icmp .ne 20) 95), (78, av_q (.aload_n 0)), (79, av_qf (.getfield 48) 7 5 2), (82, av_q (.aload_n 2)), (83, av_q (.iload_n 1)), (84, av_q (.iload 5)), (86, av_qc (.invokevirtual 236) 63 3 0 3), (89, av_qa (.ifCond .eq 6) 95), (92, av_q (.iload 5)), (94, av_q (.ireturn)), (95, av_q (.iinc 5 1)), (98, av_qa (.goto (-36)) 62), (101, av_q (.iinc 4 1)), (104, av_qa (.goto (-57)) 47), (107, av_q (.iconst (-1))), (108, av_q (.ireturn))]
def cd_116 : List (Nat × av_E) := [(0, av_q (.aload_n 0)), (1, av_qf (.getfield 48) 7 5 2), (4, av_q (.iload_n 1)), (5, av_q (.iload_n 2)), (6, av_q (.iload_n 3)), (7, av_qc (.invokevirtual 160) 48 3 0 3), (10, av_qa (.ifCond .eq 21) 31), (13, av_q (.aload_n 0)), (14, av_qf (.getfield 48) 7 5 2), (17, av_qf (.getfield 164) 3 1 2), (20, av_qf (.getfield 213) 0 12 2), (23, av_q (.iload 4)), (25, av_qc (.invokevirtual 136) 28 1 0 1), (28, av_qa (.ifCond .ne 6) 34), (31, av_q (.bipush (-2))), (33, av_q (.ireturn)), (34, av_q (.aload_n 0)), (35, av_qf (.getfield 48) 7 5 2), (38, av_qf (.getfield 164) 3 1 2), (41, av_q (.iload 4)), (43, av_qc (.invokevirtual 240) 21 1 0 0), (46, av_q (.ireturn))]
def cd_117 : List (Nat × av_E) := [(0, av_q (.iload 4)), (2, av_qc (.invokestatic 243) 119 1 2 7), (5, av_qa (.ifCond .eq 29) 34), (8, av_q (.iload 5)), (10, av_qa (.ifCond .lt 24) 34), (13, av_q (.iload 5)), (15, av_q (.sipush 9999)), (18, av_qa (.if_icmp .ge 16) 34), (21, av_q (.aload_n 0)), (22, av_qf (.getfield 48) 7 5 2), (25, av_q (.iload_n 1)), (26, av_q (.iload_n 2)), (27, av_q (.iload_n 3)), (28, av_qc (.invokevirtual 160) 48 3 0 3), (31, av_qa (.ifCond .ne 6) 37), (34, av_q (.bipush (-2))), (36, av_q (.ireturn)), (37, av_q (.aload_n 0)), (38, av_qf (.getfield 48) 7 5 2), (41, av_qf (.getfield 164) 3 1 2), (44, av_q (.iload 4)), (46, av_q (.iconst 1)), (47, av_q (.iload 5)), (49, av_qc (.invokevirtual 246) 23 3 0 0), (52, av_qa (.ifCond .eq 7) 59), (55, av_q (.iconst 1)), (56, av_qa (.goto 4) 60), (59, av_q (.iconst 0)), (60, av_q (.istore 6)), (62, av_q (.aload_n 0)), (63, av_qf (.getfield 48) 7 5 2), (66, av_qf (.getfield 164) 3 1 2), (69, av_q (.iload 4)), (71, av_q (.iconst 2)), (72, av_q (.iload 5)), (74, av_qc (.invokevirtual 246) 23 3 0 0), (77, av_qa (.ifCond .eq 10) 87), (80, av_q (.iload 6)), (82, av_q (.iconst 2)), (83, av_q (.ior)), (84, av_qa (.goto 5) 89), (87, av_q (.iload 6)), (89, av_q (.ireturn))]
def cd_118 : List (Nat × av_E) := [(0, av_q (.iload 4)), (2, av_qc (.invokestatic 243) 119 1 2 7), (5, av_qa (.ifCond .eq 28) 33), (8, av_q (.iload 5)), (10, av_q (.iconst 1)), (11, av_qa (.if_icmp .lt 22) 33), (14, av_q (.iload 5)), (16, av_q (.iconst 2)), (17, av_qa (.if_icmp .gt 16) 33), (20, av_q (.aload_n 0)), (21, av_qf (.getfield 48) 7 5 2), (24, av_q (.iload_n 1)), (25, av_q (.iload_n 2)), (26, av_q (.iload_n 3)), (27, av_qc (.invokevirtual 160) 48 3 0 3), (30, av_qa (.ifCond .ne 6) 36), (33, av_q (.bipush (-2))), (35, av_q (.ireturn)), (36, av_q (.aload_n 0)), (37, av_qf (.getfield 48) 7 5 2), (40, av_qf (.getfield 164) 3 1 2), (43, av_q (.iload 4)), (45, av_q (.iload 5)), (47, av_qc (.invokevirtual 249) 24 2 0 0), (50, av_q (.ireturn))]
def cd_119 : List (Nat × av_E) := [(0, av_q (.iload_n 0)), (1, av_qa (.ifCond .lt 12) 13), (4, av_q (.iload_n 0)), (5, av_q (.iconst 3)), (6, av_qa (.if_icmp .ge 7) 13), (9, av_q (.iconst 1)), (10, av_qa (.goto 4) 14), (13, av_q (.iconst 0)), (14, av_qa (.ireturn) 1)]
def cd_120 : List (Nat × av_E) := [(0, av_q (.aload_n 0)), (1, av_qf (.getfield 19) 7 1 2), (4, av_q (.iload_n 1)), (5, av_qc (.invokevirtual 96) 69 1 0 5), (8, av_q (.astore 4)), (10, av_q (.aload 4)), (12, av_qa (.ifnull 23) 35), (15, av_q (.aload 4)), (17, av_q (.iload_n 3)), (18, av_qc (.invokevirtual 136) 28 1 0 1), (21, av_qa (.ifCond .eq 14) 35), (24, av_q (.aload 4)), (26, av_q (.iload_n 3)), (27, av_q (.iconst 4)), (28, av_qc (.invokevirtual 139) 29 2 0 1), (31, av_q (.iconst 1)), (32, av_qa (.if_icmp .le 6) 38), (35, av_q (.bipush (-2))), (37, av_q (.ireturn)), (38, av_q (.aload_n 0)), (39, av_q (.aload 4)), (41, av_q (.iload_n 3)), (42, av_qc (.invokevirtual 252) 32 1 0 1), (45, av_q (.iload_n 1)), (46, av_q (.iload_n 2)), (47, av_qc (.invokevirtual 255) 122 3 0 7), (50, av_q (.ireturn))]
def cd_121 : List (Nat × av_E) := [(0, av_q (.aload_n 0)), (1, av_qf (.getfield 19) 7 1 2), (4, av_q (.iload_n 1)), (5, av_qc (.invokevirtual 96) 69 1 0 5), (8, av_q (.astore 4)), (10, av_q (.aload 4)), (12, av_qa (.ifnull 12) 24), (15, av_q (.aload 4)), (17, av_q (.iload_n 3)), (18, av_qc (.invokevirtual 136) 28 1 0 1), (21, av_qa (.ifCond .ne 6) 27), (24, av_q (.bipush (-2))), (26, av_q (.ireturn)), (27, av_q (.aload_n 0)), (28, av_q (.aload 4)), (30, av_q (.iload_n 3)), (31, av_qc (.invokevirtual 259) 33 1 0 1), (34, av_q (.iload_n 1)), (35, av_q (.iload_n 2)), (36, av_qc (.invokevirtual 255) 122 3 0 7), (39, av_q (.ireturn))]
def cd_122 : List (Nat × av_E) := [(0, av_q (.aload_n 0)), (1, av_qf (.getfield 48) 7 5 2), (4, av_q (.aload_n 0)), (5, av_qf (.getfield 48) 7 5 2), (8, av_qf (.getfield 164) 3 1 2), (11, av_q (.aload_n 1)), (12, av_q (.iload_n 2)), (13, av_q (.iload_n 3)), (14, av_qc (.invokevirtual 262) 51 4 0 3), (17, av_qa (.ifCond .ne 6) 23), (20, av_q (.bipush (-2))), (22, av_q (.ireturn)), (23, av_q (.aload_n 0)), (24, av_qf (.getfield 48) 7 5 2), (27, av_qc (.invokevirtual 207) 56 0 0 3), (30, av_q (.aload_n 0)), (31, av_qf (.getfield 48) 7 5 2), (34, av_qf (.getfield 210) 3 8 2), (37, av_q (.iconst 0)), (38, av_q (.iaload)), (39, av_q (.ireturn))]
def cd_123 : List (Nat × av_E) := [(0, av_q (.aload_n 0)), (1, av_qf (.getfield 61) 7 7 0), (4, av_q (.iconst 4)), (5, av_qa (.if_icmp .lt 5) 10), (8, av_q (.iconst (-1))), (9, av_q (.ireturn)), (10, av_qa (.new 16) 5), (13, av_q (.dup)), (14, av_qc (.invokespecial 18) 68 0 1 5), (17, av_q (.astore_n 1)), (18, av_q (.aload_n 1)), (19, av_q (.aload_n 0)), (20, av_qf (.getfield 19) 7 1 2), (23, av_qc (.invokevirtual 266) 77 1 0 5), (26, av_q (.aload_n 0)), (27, av_qf (.getfield 23) 7 2 2), (30, av_q (.aload_n 0)), (31, av_qf (.getfield 61) 7 7 0), (34, av_q (.aload_n 1)), (35, av_q (.aastore)), (36, av_q (.aload_n 0)), (37, av_q (.dup)), (38, av_qf (.getfield 61) 7 7 0), (41, av_q (.iconst 1)), (42, av_q (.iadd)), (43, av_qf (.putfield 61) 7 7 0), (46, av_q (.aload_n 0)), (47, av_qf (.getfield 61) 7 7 0), (50, av_q (.iconst 1)), (51, av_q (.isub)), (52, av_q (.ireturn))]
def cd_124 : List (Nat × av_E) := [(0, av_q (.iload_n 1)), (1, av_qa (.ifCond .lt 20) 21), (4, av_q (.iload_n 1)), (5, av_q (.aload_n 0)), (6, av_qf (.getfield 61) 7 7 0), (9, av_qa (.if_icmp .ge 12) 21), (12, av_q (.aload_n 0)), (13, av_qf (.getfield 23) 7 2 2), (16, av_q (.iload_n 1)), (17, av_q (.aaload)), (18, av_qa (.ifnonnull 5) 23), (21, av_q (.iconst 0)), (22, av_qa (.ireturn) 1), (23, av_q (.aload_n 0)), (24, av_qf (.getfield 19) 7 1 2), (27, av_q (.aload_n 0)), (28, av_qf (.getfield 23) 7 2 2), (31, av_q (.iload_n 1)), (32, av_q (.aaload)), (33, av_qc (.invokevirtual 266) 77 1 0 5), (36, av_q (.aload_n 0)), (37, av_qf (.getfield 48) 7 5 2), (40, av_qc (.invokevirtual 104) 46 0 0 3), (43, av_q (.iconst 1)), (44, av_qa (.ireturn) 1)]
def cd_125 : List (Nat × av_E) := [(0, av_q (.iload_n 1)), (1, av_qw (.tableswitch 84 0 5 #[39, 47, 55, 63, 71, 79]) 39), (40, av_q (.aload_n 0)), (41, av_qf (.getfield 19) 7 1 2), (44, av_qf (.getfield 79) 5 3 0), (47, av_q (.ireturn)), (48, av_q (.aload_n 0)), (49, av_qf (.getfield 19) 7 1 2), (52, av_qf (.getfield 110) 5 4 0), (55, av_q (.ireturn)), (56, av_q (.aload_n 0)), (57, av_qf (.getfield 19) 7 1 2), (60, av_qf (.getfield 124) 5 5 0), (63, av_q (.ireturn)), (64, av_q (.aload_n 0)), (65, av_qf (.getfield 10) 7 0 2), (68, av_qf (.getfield 68) 6 1 0), (71, av_q (.ireturn)), (72, av_q (.aload_n 0)), (73, av_qf (.getfield 19) 7 1 2), (76, av_qc (.invokevirtual 269) 76 0 0 5), (79, av_q (.ireturn)), (80, av_q (.aload_n 0)), (81, av_qf (.getfield 61) 7 7 0), (84, av_q (.ireturn)), (85, av_q (.iconst (-1))), (86, av_q (.ireturn))]
def cd_126 : List (Nat × av_E) := [(0, av_q (.aload_n 0)), (1, av_qa (.invokespecial 1) 1000), (4, av_q (.aload_n 0)), (5, av_q (.iconst 5)), (6, av_q (.newarray .int)), (8, av_qf (.putfield 7) 8 0 2), (11, av_q (.aload_n 0)), (12, av_q (.iconst 5)), (13, av_q (.newarray .int)), (15, av_qf (.putfield 13) 8 1 2), (18, av_q (.aload_n 0)), (19, av_q (.iconst 5)), (20, av_q (.newarray .int)), (22, av_qf (.putfield 16) 8 2 2), (25, av_q (.aload_n 0)), (26, av_q (.bipush 80)), (28, av_q (.newarray .int)), (30, av_qf (.putfield 19) 8 3 2), (33, av_q (.aload_n 0)), (34, av_q (.sipush 960)), (37, av_q (.newarray .int)), (39, av_qf (.putfield 22) 8 4 2), (42, av_q (.aload_n 0)), (43, av_q (.sipush 960)), (46, av_q (.newarray .int)), (48, av_qf (.putfield 25) 8 5 2), (51, av_q (.aload_n 0)), (52, av_q (.sipush 960)), (55, av_q (.newarray .int)), (57, av_qf (.putfield 28) 8 6 2), (60, av_q (.aload_n 0)), (61, av_q (.sipush 960)), (64, av_q (.newarray .int)), (66, av_qf (.putfield 31) 8 7 2), (69, av_q (.aload_n 0)), (70, av_q (.sipush 960)), (73, av_q (.newarray .int)), (75, av_qf (.putfield 34) 8 8 2), (78, av_q (.aload_n 0)), (79, av_q (.sipush 960)), (82, av_q (.newarray .int)), (84, av_qf (.putfield 37) 8 9 2), (87, av_q (.aload_n 0)), (88, av_q (.sipush 960)), (91, av_q (.newarray .int)), (93, av_qf (.putfield 40) 8 10 2), (96, av_q (.aload_n 0)), (97, av_q (.sipush 960)), (100, av_q (.newarray .int)), (102, av_qf (.putfield 43) 8 11 2), (105, av_q (.aload_n 0)), (106, av_q (.sipush 4800)), (109, av_q (.newarray .int)), (111, av_qf (.putfield 46) 8 12 2), (114, av_q (.aload_n 0)), (115, av_q (.sipush 2880)), (118, av_q (.newarray .int)), (120, av_qf (.putfield 49) 8 13 2), (123, av_q (.aload_n 0)), (124, av_q (.sipush 2880)), (127, av_q (.newarray .int)), (129, av_qf (.putfield 52) 8 14 2), (132, av_q (.aload_n 0)), (133, av_q (.sipush 980)), (136, av_q (.newarray .int)), (138, av_qf (.putfield 55) 8 15 2), (141, av_q (.aload_n 0)), (142, av_q (.sipush 900)), (145, av_q (.newarray .byte)), (147, av_qf (.putfield 58) 8 16 2), (150, av_q (.aload_n 0)), (151, av_q (.iconst (-1))), (152, av_qf (.putfield 62) 8 18 0), (155, av_q (.aload_n 0)), (156, av_q (.bipush 13)), (158, av_q (.newarray .int)), (160, av_qf (.putfield 66) 8 26 2), (163, av_q (.aload_n 0)), (164, av_q (.bipush 12)), (166, av_q (.newarray .int)), (168, av_qf (.putfield 69) 8 30 2), (171, av_q (.aload_n 0)), (172, av_q (.bipush 12)), (174, av_q (.newarray .int)), (176, av_qf (.putfield 72) 8 31 2), (179, av_q (.aload_n 0)), (180, av_q (.bipush 12)), (182, av_q (.newarray .int)), (184, av_qf (.putfield 75) 8 32 2), (187, av_q (.aload_n 0)), (188, av_q (.bipush 12)), (190, av_q (.newarray .int)), (192, av_qf (.putfield 78) 8 33 2), (195, av_q (.aload_n 0)), (196, av_q (.bipush 12)), (198, av_q (.newarray .int)), (200, av_qf (.putfield 81) 8 34 2), (203, av_q (.aload_n 0)), (204, av_q (.bipush 12)), (206, av_q (.newarray .int)), (208, av_qf (.putfield 84) 8 35 2), (211, av_q (.aload_n 0)), (212, av_q (.bipush 12)), (214, av_q (.newarray .int)), (216, av_qf (.putfield 87) 8 36 2), (219, av_q (.aload_n 0)), (220, av_q (.bipush 12)), (222, av_q (.newarray .boolean)), (224, av_qf (.putfield 90) 8 37 2), (227, av_q (.aload_n 0)), (228, av_q (.bipush 60)), (230, av_q (.newarray .int)), (232, av_qf (.putfield 94) 8 38 2), (235, av_q (.aload_n 0)), (236, av_q (.bipush 36)), (238, av_q (.newarray .int)), (240, av_qf (.putfield 97) 8 39 2), (243, av_q (.aload_n 0)), (244, av_q (.bipush 36)), (246, av_q (.newarray .int)), (248, av_qf (.putfield 100) 8 40 2), (251, av_q (.aload_n 0)), (252, av_q (.bipush 48)), (254, av_q (.newarray .int)), (256, av_qf (.putfield 103) 8 41 2), (259, av_q (.aload_n 0)), (260, av_q (.bipush 48)), (262, av_q (.newarray .int)), (264, av_qf (.putfield 106) 8 42 2), (267, av_q (.aload_n 0)), (268, av_q (.bipush 12)), (270, av_q (.newarray .int)), (272, av_qf (.putfield 109) 8 43 2), (275, av_q (.aload_n 0)), (276, av_q (.bipush 12)), (278, av_q (.newarray .int)), (280, av_qf (.putfield 112) 8 44 2), (283, av_q (.aload_n 0)), (284, av_q (.bipush 12)), (286, av_q (.newarray .int)), (288, av_qf (.putfield 115) 8 45 2), (291, av_q (.aload_n 0)), (292, av_q (.bipush 48)), (294, av_q (.newarray .int)), (296, av_qf (.putfield 118) 8 46 2), (299, av_q (.aload_n 0)), (300, av_q (.bipush 12)), (302, av_q (.newarray .int)), (304, av_qf (.putfield 121) 8 47 2), (307, av_q (.aload_n 0)), (308, av_q (.bipush 12)), (310, av_q (.newarray .int)), (312, av_qf (.putfield 124) 8 48 2), (315, av_q (.aload_n 0)), (316, av_q (.bipush 12)), (318, av_q (.newarray .int)), (320, av_qf (.putfield 127) 8 49 2), (323, av_q (.aload_n 0)), (324, av_q (.bipush 16)), (326, av_q (.newarray .boolean)), (328, av_qf (.putfield 130) 8 54 2), (331, av_q (.aload_n 0)), (332, av_q (.bipush 16)), (334, av_q (.newarray .boolean)), (336, av_qf (.putfield 133) 8 55 2), (339, av_q (.aload_n 0)), (340, av_q (.sipush 1024)), (343, av_q (.newarray .boolean)), (345, av_qf (.putfield 136) 8 56 2), (348, av_q (.aload_n 0)), (349, av_q (.sipush 1024)), (352, av_q (.newarray .int)), (354, av_qf (.putfield 139) 8 57 2), (357, av_q (.aload_n 0)), (358, av_q (.sipush 1024)), (361, av_q (.newarray .int)), (363, av_qf (.putfield 142) 8 58 2), (366, av_q (.aload_n 0)), (367, av_q (.sipush 5120)), (370, av_q (.newarray .int)), (372, av_qf (.putfield 145) 8 59 2), (375, av_q (.return_))]
def cd_127 : List (Nat × av_E) := [(0, av_q (.iload_n 0)), (1, av_q (.iload_n 1)), (2, av_qa (.if_icmp .lt 12) 14), (5, av_q (.iload_n 0)), (6, av_q (.iload_n 2)), (7, av_qa (.if_icmp .gt 7) 14), (10, av_q (.iconst 1)), (11, av_qa (.goto 4) 15), (14, av_q (.iconst 0)), (15, av_qa (.ireturn) 1)]
def cd_128 : List (Nat × av_E) := [(0, av_q (.aload_n 0)), (1, av_qf (.getfield 148) 8 17 0), (4, av_q (.bipush 20)), (6, av_q (.iadd)), (7, av_q (.sipush 900)), (10, av_qa (.if_icmp .le 5) 15), (13, av_q (.iconst (-1))), (14, av_q (.ireturn)), (15, av_q (.iconst 0)), (16, av_q (.istore 6)), (18, av_q (.iload 6)), (20, av_q (.bipush 20)), (22, av_qa (.if_icmp .ge 90) 112), (25, av_q (.iload 6)), (27, av_q (.iconst 4)), (28, av_qa (.if_icmp .ge 7) 35), (31, av_q (.iload_n 1)), (32, av_qa (.goto 39) 71), (35, av_q (.iload 6)), (37, av_q (.bipush 8)), (39, av_qa (.if_icmp .ge 7) 46), (42, av_q (.iload_n 2)), (43, av_qa (.goto 28) 71), (46, av_q (.iload 6)), (48, av_q (.bipush 12)), (50, av_qa (.if_icmp .ge 7) 57), (53, av_q (.iload_n 3)), (54, av_qa (.goto 17) 71), (57, av_q (.iload 6)), (59, av_q (.bipush 16)), (61, av_qa (.if_icmp .ge 8) 69), (64, av_q (.iload 4)), (66, av_qa (.goto 5) 71), (69, av_q (.iload 5)), (71, av_q (.istore 7)), (73, av_q (.aload_n 0)), (74, av_qf (.getfield 58) 8 16 2), (77, av_q (.aload_n 0)), (78, av_qf (.getfield 148) 8 17 0), (81, av_q (.iload 7)), (83, av_q (.bipush 24)), (85, av_q (.bipush 8)), (87, av_q (.iload 6)), (89, av_q (.iconst 4)), (90, av_q (.irem)), (91, av_q (.imul)), (92, av_q (.isub)), (93, av_q (.ishr)), (94, av_q (.i2b)), (95, av_q (.bastore)), (96, av_q (.aload_n 0)), (97, av_q (.dup)), (98, av_qf (.getfield 148) 8 17 0), (101, av_q (.iconst 1)), (102, av_q (.iadd)), (103, av_qf (.putfield 148) 8 17 0), (106, av_q (.iinc 6 1)), (109, av_qa (.goto (-91)) 18), (112, av_q (.aload_n 0)), (113, av_qf (.getfield 148) 8 17 0), (116, av_q (.ireturn))]
def cd_129 : List (Nat × av_E) := [(0, av_q (.aload_n 0)), (1, av_qf (.getfield 151) 8 20 0), (4, av_q (.aload_n 0)), (5, av_qf (.getfield 154) 8 19 0), (8, av_qa (.if_icmp .ge 19) 27), (11, av_q (.aload_n 0)), (12, av_qf (.getfield 58) 8 16 2), (15, av_q (.aload_n 0)), (16, av_qf (.getfield 151) 8 20 0), (19, av_q (.baload)), (20, av_q (.sipush 255)), (23, av_q (.iand)), (24, av_qa (.goto 4) 28), (27, av_q (.iconst (-1))), (28, av_q (.ireturn))]
def cd_130 : List (Nat × av_E) := [(0, av_q (.aload_n 0)), (1, av_qc (.invokevirtual 157) 129 0 0 8), (4, av_q (.bipush 32)), (6, av_qa (.if_icmp .eq 12) 18), (9, av_q (.aload_n 0)), (10, av_qc (.invokevirtual 157) 129 0 0 8), (13, av_q (.bipush 10)), (15, av_qa (.if_icmp .ne 16) 31), (18, av_q (.aload_n 0)), (19, av_q (.dup)), (20, av_qf (.getfield 151) 8 20 0), (23, av_q (.iconst 1)), (24, av_q (.iadd)), (25, av_qf (.putfield 151) 8 20 0), (28, av_qa (.goto (-28)) 0), (31, av_q (.aload_n 0)), (32, av_q (.aload_n 0)), (33, av_qf (.getfield 151) 8 20 0), (36, av_qf (.putfield 161) 8 21 0), (39, av_q (.aload_n 0)), (40, av_qc (.invokevirtual 157) 129 0 0 8), (43, av_q (.istore_n 1)), (44, av_q (.aload_n 0)), (45, av_qk (.ldc2_w 164) (-1)), (48, av_qf (.putfield 166) 8 24 1), (51, av_q (.aload_n 0)), (52, av_q (.iconst 0)), (53, av_qf (.putfield 170) 8 23 0), (56, av_q (.iload_n 1)), (57, av_qa (.ifCond .ge 11) 68), (60, av_q (.aload_n 0)), (61, av_q (.iconst 0)), (62, av_qf (.putfield 173) 8 22 0), (65, av_qa (.goto 209) 274), (68, av_q (.iload_n 1)), (69, av_q (.bipush 97)), (71, av_q (.bipush 122)), (73, av_qc (.invokestatic 176) 127 3 2 8), (76, av_qa (.ifCond .eq 81) 157), (79, av_q (.aload_n 0)), (80, av_q (.iconst 1)), (81, av_qf (.putfield 173) 8 22 0), (84, av_q (.aload_n 0)), (85, av_q (.lconst 0)), (86, av_qf (.putfield 166) 8 24 1), (89, av_q (.aload_n 0)), (90, av_qc (.invokevirtual 157) 129 0 0 8), (93, av_q (.bipush 97)), (95, av_q (.bipush 122)), (97, av_qc (.invokestatic 176) 127 3 2 8), (100, av_qa (.ifCond .eq 174) 274), (103, av_q (.aload_n 0)), (104, av_q (.aload_n 0)), (105, av_qf (.getfield 151) 8 20 0), (108, av_q (.aload_n 0)), (109, av_qf (.getfield 161) 8 21 0), (112, av_q (.isub)), (113, av_q (.bipush 8)), (115, av_qa (.if_icmp .ge 23) 138), (118, av_q (.aload_n 0)), (119, av_qf (.getfield 166) 8 24 1), (122, av_qk (.ldc2_w 180) (27)), (125, av_q (.lmul)), (126, av_q (.aload_n 0)), (127, av_qc (.invokevirtual 157) 129 0 0 8), (130, av_q (.bipush 96)), (132, av_q (.isub)), (133, av_q (.i2l)), (134, av_q (.ladd)), (135, av_qa (.goto 6) 141), (138, av_qk (.ldc2_w 164) (-1)), (141, av_qf (.putfield 166) 8 24 1), (144, av_q (.aload_n 0)), (145, av_q (.dup)), (146, av_qf (.getfield 151) 8 20 0), (149, av_q (.iconst 1)), (150, av_q (.iadd)), (151, av_qf (.putfield 151) 8 20 0), (154, av_qa (.goto (-65)) 89), (157, av_q (.iload_n 1)), (158, av_q (.bipush 48)), (160, av_q (.bipush 57)), (162, av_qc (.invokestatic 176) 127 3 2 8), (165, av_qa (.ifCond .eq 83) 248), (168, av_q (.aload_n 0)), (169, av_qc (.invokevirtual 157) 129 0 0 8), (172, av_q (.bipush 48)), (174, av_q (.bipush 57)), (176, av_qc (.invokestatic 176) 127 3 2 8), (179, av_qa (.ifCond .eq 44) 223), (182, av_q (.aload_n 0)), (183, av_qf (.getfield 170) 8 23 0), (186, av_qk (.ldc 182) (1000000)), (188, av_qa (.if_icmp .ge 22) 210), (191, av_q (.aload_n 0)), (192, av_q (.bipush 10)), (194, av_q (.aload_n 0)), (195, av_qf (.getfield 170) 8 23 0), (198, av_q (.imul)), (199, av_q (.aload_n 0)), (200, av_qc (.invokevirtual 157) 129 0 0 8), (203, av_q (.iadd)), (204, av_q (.bipush 48)), (206, av_q (.isub)), (207, av_qf (.putfield 170) 8 23 0), (210, av_q (.aload_n 0)), (211, av_q (.dup)), (212, av_qf (.getfield 151) 8 20 0), (215, av_q (.iconst 1)), (216, av_q (.iadd)), (217, av_qf (.putfield 151) 8 20 0), (220, av_qa (.goto (-52)) 168), (223, av_q (.aload_n 0)), (224, av_q (.aload_n 0)), (225, av_qf (.getfield 151) 8 20 0), (228, av_q (.aload_n 0)), (229, av_qf (.getfield 161) 8 21 0), (232, av_q (.isub)), (233, av_q (.iconst 4)), (234, av_qa (.if_icmp .gt 7) 241), (237, av_q (.iconst 2)), (238, av_qa (.goto 4) 242), (241, av_q (.iconst 3)), (242, av_qf (.putfield 173) 8 22 0), (245, av_qa (.goto 29) 274), (248, av_q (.aload_n 0)), (249, av_q (.iload_n 1)), (250, av_q (.bipush 59)), (252, av_qa (.if_icmp .ne 8) 260), (255, av_q (.bipush 59)), (257, av_qa (.goto 4) 261), (260, av_q (.iconst 3)), (261, av_qf (.putfield 173) 8 22 0), (264, av_q (.aload_n 0)), (265, av_q (.dup)), (266, av_qf (.getfield 151) 8 20 0), (269, av_q (.iconst 1)), (270, av_q (.iadd)), (271, av_qf (.putfield 151) 8 20 0), (274, av_q (.return_))]
def cd_131 : List (Nat × av_E) := [(0, av_q (.aload_n 0)), (1, av_qf (.getfield 183) 8 25 3), (4, av_qa (.ifCond .eq 4) 8), (7, av_q (.return_)), (8, av_q (.aload_n 0)), (9, av_q (.iconst 1)), (10, av_qf (.putfield 183) 8 25 3), (13, av_q (.aload_n 0)), (14, av_q (.aload_n 0)), (15, av_qf (.getfield 161) 8 21 0), (18, av_qf (.putfield 62) 8 18 0), (21, av_q (.return_))]
def cd_132 : List (Nat × av_E) := [(0, av_q (.aload_n 0)), (1, av_qf (.getfield 183) 8 25 3), (4, av_qa (.ifCond .ne 24) 28), (7, av_q (.aload_n 0)), (8, av_qf (.getfield 173) 8 22 0), (11, av_q (.iconst 1)), (12, av_qa (.if_icmp .ne 16) 28), (15, av_q (.aload_n 0)), (16, av_qf (.getfield 166) 8 24 1), (19, av_q (.lload_n 1)), (20, av_q (.lcmp)), (21, av_qa (.ifCond .ne 7) 28), (24, av_q (.iconst 1)), (25, av_qa (.goto 4) 29), (28, av_q (.iconst 0)), (29, av_qa (.ireturn) 1)]
def cd_133 : List (Nat × av_E) := [(0, av_q (.aload_n 0)), (1, av_q (.lload_n 1)), (2, av_qc (.invokevirtual 187) 132 1 0 8), (5, av_qa (.ifCond .eq 10) 15), (8, av_q (.aload_n 0)), (9, av_qc (.invokevirtual 191) 130 0 0 8), (12, av_qa (.goto 7) 19), (15, av_q (.aload_n 0)), (16, av_qc (.invokevirtual 194) 131 0 0 8), (19, av_q (.return_))]
def cd_134 : List (Nat × av_E) := [(0, av_q (.aload_n 0)), (1, av_qf (.getfield 170) 8 23 0), (4, av_q (.istore_n 3)), (5, av_q (.aload_n 0)), (6, av_qf (.getfield 183) 8 25 3), (9, av_qa (.ifCond .eq 5) 14), (12, av_q (.iconst 0)), (13, av_q (.ireturn)), (14, av_q (.aload_n 0)), (15, av_qf (.getfield 173) 8 22 0), (18, av_q (.iconst 2)), (19, av_qa (.if_icmp .ne 13) 32), (22, av_q (.iload_n 3)), (23, av_q (.iload_n 1)), (24, av_qa (.if_icmp .lt 8) 32), (27, av_q (.iload_n 3)), (28, av_q (.iload_n 2)), (29, av_qa (.if_icmp .le 9) 38), (32, av_q (.aload_n 0)), (33, av_qc (.invokevirtual 194) 131 0 0 8), (36, av_q (.iconst 0)), (37, av_q (.ireturn)), (38, av_q (.aload_n 0)), (39, av_qc (.invokevirtual 191) 130 0 0 8), (42, av_q (.iload_n 3)), (43, av_q (.ireturn))]
def cd_135 : List (Nat × av_E) := [(0, av_q (.aload_n 0)), (1, av_qf (.getfield 183) 8 25 3), (4, av_qa (.ifCond .eq 4) 8), (7, av_q (.return_)), (8, av_q (.aload_n 0)), (9, av_qf (.getfield 173) 8 22 0), (12, av_q (.bipush 59)), (14, av_qa (.if_icmp .ne 10) 24), (17, av_q (.aload_n 0)), (18, av_qc (.invokevirtual 191) 130 0 0 8), (21, av_qa (.goto 7) 28), (24, av_q (.aload_n 0)), (25, av_qc (.invokevirtual 194) 131 0 0 8), (28, av_q (.return_))]
def cd_136 : List (Nat × av_E) := [(0, av_q (.aload_n 0)), (1, av_q (.iload_n 1)), (2, av_qf (.putfield 154) 8 19 0), (5, av_q (.aload_n 0)), (6, av_q (.iconst 0)), (7, av_qf (.putfield 148) 8 17 0), (10, av_q (.aload_n 0)), (11, av_q (.iconst 0)), (12, av_qf (.putfield 151) 8 20 0), (15, av_q (.aload_n 0)), (16, av_q (.iconst (-1))), (17, av_qf (.putfield 62) 8 18 0), (20, av_q (.aload_n 0)), (21, av_q (.iconst 0)), (22, av_qf (.putfield 183) 8 25 3), (25, av_q (.aload_n 0)), (26, av_qc (.invokevirtual 191) 130 0 0 8), (29, av_q (.return_))]
def cd_137 : List (Nat × av_E) := [(0, av_q (.aload_n 0)), (1, av_qf (.getfield 183) 8 25 3), (4, av_qa (.ifCond .eq 5) 9), (7, av_q (.iconst 0)), (8, av_q (.ireturn)), (9, av_q (.aload_n 0)), (10, av_qf (.getfield 173) 8 22 0), (13, av_q (.iconst 1)), (14, av_qa (.if_icmp .ne 33) 47), (17, av_q (.aload_n 0)), (18, av_qf (.getfield 166) 8 24 1), (21, av_q (.lconst 1)), (22, av_q (.lcmp)), (23, av_qa (.ifCond .lt 24) 47), (26, av_q (.aload_n 0)), (27, av_qf (.getfield 166) 8 24 1), (30, av_qk (.ldc2_w 197) (3)), (33, av_q (.lcmp)), (34, av_qa (.ifCond .gt 13) 47), (37, av_q (.aload_n 0)), (38, av_qf (.getfield 166) 8 24 1), (41, av_q (.l2i)), (42, av_q (.iconst 1)), (43, av_q (.isub)), (44, av_qa (.goto 4) 48), (47, av_q (.iconst (-1))), (48, av_q (.istore_n 2)), (49, av_q (.iload_n 2)), (50, av_qa (.ifCond .lt 8) 58), (53, av_q (.iload_n 2)), (54, av_q (.iload_n 1)), (55, av_qa (.if_icmp .ne 9) 64), (58, av_q (.aload_n 0)), (59, av_qc (.invokevirtual 194) 131 0 0 8), (62, av_q (.iconst 0)), (63, av_q (.ireturn)), (64, av_q (.aload_n 0)), (65, av_qc (.invokevirtual 191) 130 0 0 8), (68, av_q (.iload_n 2)), (69, av_q (.ireturn))]
def cd_138 : List (Nat × av_E) := [(0, av_q (.aload_n 0)), (1, av_qf (.getfield 183) 8 25 3), (4, av_qa (.ifCond .ne 11) 15), (7, av_q (.aload_n 0)), (8, av_qf (.getfield 173) 8 22 0), (11, av_q (.iconst 1)), (12, av_qa (.if_icmp .eq 5) 17), (15, av_q (.iconst (-1))), (16, av_q (.ireturn)), (17, av_q (.aload_n 0)), (18, av_qf (.getfield 166) 8 24 1), (21, av_qk (.ldc2_w 199) (8863997)), (24, av_q (.lcmp)), (25, av_qa (.ifCond .ne 5) 30), (28, av_q (.iconst 0)), (29, av_q (.ireturn)), (30, av_q (.aload_n 0)), (31, av_qf (.getfield 166) 8 24 1), (34, av_qk (.ldc2_w 201) (271277)), (37, av_q (.lcmp)), (38, av_qa (.ifCond .ne 5) 43), (41, av_q (.iconst 1)), (42, av_q (.ireturn)), (43, av_q (.aload_n 0)), (44, av_qf (.getfield 166) 8 24 1), (47, av_qk (.ldc2_w 203) (2968)), (50, av_q (.lcmp)), (51, av_qa (.ifCond .ne 5) 56), (54, av_q (.iconst 2)), (55, av_q (.ireturn)), (56, av_q (.aload_n 0)), (57, av_qf (.getfield 166) 8 24 1), (60, av_qk (.ldc2_w 205) (326369)), (63, av_q (.lcmp)), (64, av_qa (.ifCond .ne 5) 69), (67, av_q (.iconst 3)), (68, av_q (.ireturn)), (69, av_q (.aload_n 0)), (70, av_qf (.getfield 166) 8 24 1), (73, av_qk (.ldc2_w 207) (1905383)), (76, av_q (.lcmp)), (77, av_qa (.ifCond .ne 5) 82), (80, av_q (.iconst 4)), (81, av_q (.ireturn)), (82, av_q (.iconst (-1))), (83, av_q (.ireturn))]
def cd_139 : List (Nat × av_E) := [(0, av_q (.aload_n 0)), (1, av_qf (.getfield 183) 8 25 3), (4, av_qa (.ifCond .ne 11) 15), (7, av_q (.aload_n 0)), (8, av_qf (.getfield 173) 8 22 0), (11, av_q (.iconst 1)), (12, av_qa (.if_icmp .eq 5) 17), (15, av_q (.iconst (-1))), (16, av_q (.ireturn)), (17, av_q (.aload_n 0)), (18, av_qf (.getfield 166) 8 24 1), (21, av_qk (.ldc2_w 209) (8094240)), (24, av_q (.lcmp)), (25, av_qa (.ifCond .ne 5) 30), (28, av_q (.iconst 0)), (29, av_q (.ireturn)), (30, av_q (.aload_n 0)), (31, av_qf (.getfield 166) 8 24 1), (34, av_qk (.ldc2_w 211) (1253)), (37, av_q (.lcmp)), (38, av_qa (.ifCond .ne 5) 43), (41, av_q (.iconst 1)), (42, av_q (.ireturn)), (43, av_q (.aload_n 0)), (44, av_qf (.getfield 166) 8 24 1), (47, av_qk (.ldc2_w 213) (18379)), (50, av_q (.lcmp)), (51, av_qa (.ifCond .ne 5) 56), (54, av_q (.iconst 2)), (55, av_q (.ireturn)), (56, av_q (.aload_n 0)), (57, av_qf (.getfield 166) 8 24 1), (60, av_qk (.ldc2_w 215) (393)), (63, av_q (.lcmp)), (64, av_qa (.ifCond .ne 5) 69), (67, av_q (.iconst 4)), (68, av_q (.ireturn)), (69, av_q (.aload_n 0)), (70, av_qf (.getfield 166) 8 24 1), (73, av_qk (.ldc2_w 217) (40187)), (76, av_q (.lcmp)), (77, av_qa (.ifCond .ne 5) 82), (80, av_q (.iconst 5)), (81, av_q (.ireturn)), (82, av_q (.aload_n 0)), (83, av_qf (.getfield 166) 8 24 1), (86, av_qk (.ldc2_w 219) (82516)), (89, av_q (.lcmp)), (90, av_qa (.ifCond .ne 6) 96), (93, av_q (.bipush 6)), (95, av_q (.ireturn)), (96, av_q (.aload_n 0)), (97, av_qf (.getfield 166) 8 24 1), (100, av_qk (.ldc2_w 221) (378004)), (103, av_q (.lcmp)), (104, av_qa (.ifCond .ne 6) 110), (107, av_q (.bipush 7)), (109, av_q (.ireturn)), (110, av_q (.iconst (-1))), (111, av_q (.ireturn))]
def cd_140 : List (Nat × av_E) := [(0, av_q (.aload_n 0)), (1, av_qf (.getfield 183) 8 25 3), (4, av_qa (.ifCond .ne 11) 15), (7, av_q (.aload_n 0)), (8, av_qf (.getfield 173) 8 22 0), (11, av_q (.iconst 1)), (12, av_qa (.if_icmp .eq 5) 17), (15, av_q (.iconst (-1))), (16, av_q (.ireturn)), (17, av_q (.aload_n 0)), (18, av_qf (.getfield 166) 8 24 1), (21, av_qk (.ldc2_w 223) (326396)), (24, av_q (.lcmp)), (25, av_qa (.ifCond .ne 5) 30), (28, av_q (.iconst 0)), (29, av_q (.ireturn)), (30, av_q (.aload_n 0)), (31, av_qf (.getfield 166) 8 24 1), (34, av_qk (.ldc2_w 225) (459761)), (37, av_q (.lcmp)), (38, av_qa (.ifCond .ne 5) 43), (41, av_q (.iconst 1)), (42, av_q (.ireturn)), (43, av_q (.aload_n 0)), (44, av_qf (.getfield 166) 8 24 1), (47, av_qk (.ldc2_w 227) (7219835)), (50, av_q (.lcmp)), (51, av_qa (.ifCond .ne 5) 56), (54, av_q (.iconst 2)), (55, av_q (.ireturn)), (56, av_q (.aload_n 0)), (57, av_qf (.getfield 166) 8 24 1), (60, av_qk (.ldc2_w 219) (82516)), (63, av_q (.lcmp)), (64, av_qa (.ifCond .ne 5) 69), (67, av_q (.iconst 3)), (68, av_q (.ireturn)), (69, av_q (.iconst (-1))), (70, av_q (.ireturn))]
def cd_141 : List (Nat × av_E) := [(0, av_q (.iload_n 2)), (1, av_qa (.ifCond .eq 14) 15), (4, av_q (.aload_n 0)), (5, av_qc (.invokevirtual 229) 138 0 0 8), (8, av_qa (.ifCond .ge 7) 15), (11, av_q (.aload_n 0)), (12, av_qc (.invokevirtual 194) 131 0 0 8), (15, av_q (.aload_n 0)), (16, av_qc (.invokevirtual 229) 138 0 0 8), (19, av_qa (.ifCond .lt 33) 52), (22, av_q (.aload_n 0)), (23, av_qc (.invokevirtual 229) 138 0 0 8), (26, av_q (.istore_n 3)), (27, av_q (.aload_n 0)), (28, av_qc (.invokevirtual 191) 130 0 0 8), (31, av_q (.aload_n 0)), (32, av_qf (.getfield 46) 8 12 2), (35, av_q (.iconst 5)), (36, av_q (.iload_n 1)), (37, av_q (.imul)), (38, av_q (.iload_n 3)), (39, av_q (.iadd)), (40, av_q (.aload_n 0)), (41, av_q (.iconst 0)), (42, av_q (.sipush 999)), (45, av_qc (.invokevirtual 232) 134 2 0 8), (48, av_q (.iastore)), (49, av_qa (.goto (-34)) 15), (52, av_q (.return_))]
def cd_142 : List (Nat × av_E) := [(0, av_q (.aload_n 0)), (1, av_qf (.getfield 49) 8 13 2), (4, av_q (.iconst 3)), (5, av_q (.iload_n 1)), (6, av_q (.imul)), (7, av_q (.iload_n 2)), (8, av_q (.iadd)), (9, av_q (.aload_n 0)), (10, av_q (.iconst 0)), (11, av_q (.iload_n 3)), (12, av_qc (.invokevirtual 232) 134 2 0 8), (15, av_q (.iastore)), (16, av_q (.aload_n 0)), (17, av_qf (.getfield 52) 8 14 2), (20, av_q (.iconst 3)), (21, av_q (.iload_n 1)), (22, av_q (.imul)), (23, av_q (.iload_n 2)), (24, av_q (.iadd)), (25, av_q (.aload_n 0)), (26, av_qf (.getfield 49) 8 13 2), (29, av_q (.iconst 3)), (30, av_q (.iload_n 1)), (31, av_q (.imul)), (32, av_q (.iload_n 2)), (33, av_q (.iadd)), (34, av_q (.iaload)), (35, av_q (.iastore)), (36, av_q (.aload_n 0)), (37, av_qk (.ldc2_w 236) (555)), (40, av_qc (.invokevirtual 187) 132 1 0 8), (43, av_qa (.ifCond .ne 4) 47), (46, av_q (.return_)), (47, av_q (.aload_n 0)), (48, av_qc (.invokevirtual 191) 130 0 0 8), (51, av_q (.aload_n 0)), (52, av_qf (.getfield 49) 8 13 2), (55, av_q (.iconst 3)), (56, av_q (.iload_n 1)), (57, av_q (.imul)), (58, av_q (.iload_n 2)), (59, av_q (.iadd)), (60, av_q (.iaload)), (61, av_q (.bipush 15)), (63, av_q (.iadd)), (64, av_q (.istore 4)), (66, av_q (.aload_n 0)), (67, av_qf (.getfield 52) 8 14 2), (70, av_q (.iconst 3)), (71, av_q (.iload_n 1)), (72, av_q (.imul)), (73, av_q (.iload_n 2)), (74, av_q (.iadd)), (75, av_q (.aload_n 0)), (76, av_q (.aload_n 0)), (77, av_qf (.getfield 49) 8 13 2), (80, av_q (.iconst 3)), (81, av_q (.iload_n 1)), (82, av_q (.imul)), (83, av_q (.iload_n 2)), (84, av_q (.iadd)), (85, av_q (.iaload)), (86, av_q (.iload 4)), (88, av_q (.iload_n 3)), (89, av_qa (.if_icmp .ge 8) 97), (92, av_q (.iload 4)), (94, av_qa (.goto 4) 98), (97, av_q (.iload_n 3)), (98, av_qc (.invokevirtual 232) 134 2 0 8), (101, av_q (.iastore)), (102, av_q (.return_))]
def cd_143 : List (Nat × av_E) := [(0, av_q (.aload_n 0)), (1, av_qc (.invokevirtual 238) 140 0 0 8), (4, av_q (.istore_n 2)), (5, av_q (.iload_n 2)), (6, av_qa (.ifCond .ge 8) 14), (9, av_q (.aload_n 0)), (10, av_qc (.invokevirtual 194) 131 0 0 8), (13, av_q (.return_)), (14, av_q (.aload_n 0)), (15, av_qc (.invokevirtual 191) 130 0 0 8), (18, av_q (.aload_n 0)), (19, av_qf (.getfield 34) 8 8 2), (22, av_q (.iload_n 1)), (23, av_q (.iload_n 2)), (24, av_q (.iastore)), (25, av_q (.aload_n 0)), (26, av_qk (.ldc2_w 241) (47)), (29, av_qc (.invokevirtual 243) 133 1 0 8), (32, av_q (.aload_n 0)), (33, av_q (.iload_n 1)), (34, av_q (.iconst 0)), (35, av_q (.sipush 1999)), (38, av_qc (.invokevirtual 247) 142 3 0 8), (41, av_q (.iload_n 2)), (42, av_q (.iconst 1)), (43, av_qa (.if_icmp .le 4) 47), (46, av_q (.return_)), (47, av_q (.aload_n 0)), (48, av_qk (.ldc2_w 251) (664272)), (51, av_qc (.invokevirtual 243) 133 1 0 8), (54, av_q (.aload_n 0)), (55, av_q (.iload_n 1)), (56, av_q (.iconst 1)), (57, av_q (.sipush 999)), (60, av_qc (.invokevirtual 247) 142 3 0 8), (63, av_q (.aload_n 0)), (64, av_qk (.ldc2_w 253) (357970)), (67, av_qc (.invokevirtual 187) 132 1 0 8), (70, av_qa (.ifCond .eq 16) 86), (73, av_q (.aload_n 0)), (74, av_qc (.invokevirtual 191) 130 0 0 8), (77, av_q (.aload_n 0)), (78, av_q (.iload_n 1)), (79, av_q (.iconst 2)), (80, av_q (.sipush 999)), (83, av_qc (.invokevirtual 247) 142 3 0 8), (86, av_q (.aload_n 0)), (87, av_qk (.ldc2_w 255) (247664)), (90, av_qc (.invokevirtual 187) 132 1 0 8), (93, av_qa (.ifCond .eq 14) 107), (96, av_q (.aload_n 0)), (97, av_qc (.invokevirtual 191) 130 0 0 8), (100, av_q (.aload_n 0)), (101, av_qf (.getfield 43) 8 11 2), (104, av_q (.iload_n 1)), (105, av_q (.iconst 1)), (106, av_q (.iastore)), (107, av_q (.return_))]
def cd_144 : List (Nat × av_E) := [(0, av_q (.iload_n 1)), (1, av_qa (.ifCond .eq 8) 9), (4, av_q (.iload_n 1)), (5, av_q (.iconst 3)), (6, av_qa (.if_icmp .ne 7) 13), (9, av_q (.iconst 1)), (10, av_qa (.goto 4) 14), (13, av_q (.iconst 0)), (14, av_qa (.ireturn) 1)]
def cd_145 : List (Nat × av_E) := [(0, av_q (.aload_n 0)), (1, av_qf (.getfield 183) 8 25 3), (4, av_qa (.ifCond .eq 5) 9), (7, av_q (.iconst (-1))), (8, av_q (.ireturn)), (9, av_q (.aload_n 0)), (10, av_qf (.getfield 173) 8 22 0), (13, av_q (.iconst 2)), (14, av_qa (.if_icmp .ne 18) 32), (17, av_q (.aload_n 0)), (18, av_qf (.getfield 170) 8 23 0), (21, av_q (.iload_n 2)), (22, av_qa (.if_icmp .ge 10) 32), (25, av_q (.aload_n 0)), (26, av_qf (.getfield 170) 8 23 0), (29, av_qa (.goto 4) 33), (32, av_q (.iconst (-1))), (33, av_q (.istore 5)), (35, av_q (.bipush 12)), (37, av_q (.iload_n 1)), (38, av_q (.imul)), (39, av_q (.iload 5)), (41, av_q (.iadd)), (42, av_q (.istore 6)), (44, av_q (.iload 5)), (46, av_qa (.ifCond .lt 7) 53), (49, av_q (.iconst 1)), (50, av_qa (.goto 4) 54), (53, av_q (.iconst 0)), (54, av_q (.istore 7)), (56, av_q (.iload 7)), (58, av_qa (.ifCond .eq 52) 110), (61, av_q (.iload_n 3)), (62, av_q (.iconst 2)), (63, av_qa (.if_icmp .eq 14) 77), (66, av_q (.iload_n 3)), (67, av_q (.iconst 4)), (68, av_qa (.if_icmp .eq 9) 77), (71, av_q (.iload_n 3)), (72, av_q (.bipush 6)), (74, av_qa (.if_icmp .ne 36) 110), (77, av_q (.aload_n 0)), (78, av_q (.aload_n 0)), (79, av_qf (.getfield 22) 8 4 2), (82, av_q (.iload 6)), (84, av_q (.iaload)), (85, av_qc (.invokevirtual 257) 144 1 0 8), (88, av_qa (.ifCond .eq 19) 107), (91, av_q (.aload_n 0)), (92, av_qf (.getfield 28) 8 6 2), (95, av_q (.iload 6)), (97, av_q (.iaload)), (98, av_q (.iload 4)), (100, av_qa (.if_icmp .ne 7) 107), (103, av_q (.iconst 1)), (104, av_qa (.goto 4) 108), (107, av_q (.iconst 0)), (108, av_q (.istore 7)), (110, av_q (.iload 7)), (112, av_qa (.ifCond .eq 52) 164), (115, av_q (.iload_n 3)), (116, av_q (.iconst 5)), (117, av_qa (.if_icmp .ne 47) 164), (120, av_q (.aload_n 0)), (121, av_q (.aload_n 0)), (122, av_qf (.getfield 22) 8 4 2), (125, av_q (.iload 6)), (127, av_q (.iaload)), (128, av_qc (.invokevirtual 257) 144 1 0 8), (131, av_qa (.ifCond .ne 14) 145), (134, av_q (.aload_n 0)), (135, av_qf (.getfield 22) 8 4 2), (138, av_q (.iload 6)), (140, av_q (.iaload)), (141, av_q (.iconst 2)), (142, av_qa (.if_icmp .ne 19) 161), (145, av_q (.aload_n 0)), (146, av_qf (.getfield 25) 8 5 2), (149, av_q (.iload 6)), (151, av_q (.iaload)), (152, av_q (.iload 4)), (154, av_qa (.if_icmp .ne 7) 161), (157, av_q (.iconst 1)), (158, av_qa (.goto 4) 162), (161, av_q (.iconst 0)), (162, av_q (.istore 7)), (164, av_q (.iload 7)), (166, av_qa (.ifCond .eq 42) 208), (169, av_q (.iload_n 3)), (170, av_q (.bipush 7)), (172, av_qa (.if_icmp .ne 36) 208), (175, av_q (.aload_n 0)), (176, av_q (.aload_n 0)), (177, av_qf (.getfield 22) 8 4 2), (180, av_q (.iload 6)), (182, av_q (.iaload)), (183, av_qc (.invokevirtual 257) 144 1 0 8), (186, av_qa (.ifCond .eq 19) 205), (189, av_q (.aload_n 0)), (190, av_qf (.getfield 25) 8 5 2), (193, av_q (.iload 6)), (195, av_q (.iaload)), (196, av_q (.iload 4)), (198, av_qa (.if_icmp .ne 7) 205), (201, av_q (.iconst 1)), (202, av_qa (.goto 4) 206), (205, av_q (.iconst 0)), (206, av_q (.istore 7)), (208, av_q (.iload 7)), (210, av_qa (.ifCond .ne 10) 220), (213, av_q (.aload_n 0)), (214, av_qc (.invokevirtual 194) 131 0 0 8), (217, av_qa (.goto 7) 224), (220, av_q (.aload_n 0)), (221, av_qc (.invokevirtual 191) 130 0 0 8), (224, av_q (.iload 5)), (226, av_q (.ireturn))]
def cd_146 : List (Nat × av_E) := [(0, av_q (.bipush 12)), (2, av_q (.iload_n 1)), (3, av_q (.imul)), (4, av_q (.iload_n 2)), (5, av_q (.iadd)), (6, av_q (.istore_n 3)), (7, av_q (.aload_n 0)), (8, av_qc (.invokevirtual 261) 139 0 0 8), (11, av_q (.istore 4)), (13, av_q (.iload 4)), (15, av_qa (.ifCond .lt 9) 24), (18, av_q (.iload_n 2)), (19, av_q (.bipush 12)), (21, av_qa (.if_icmp .ne 8) 29), (24, av_q (.aload_n 0)), (25, av_qc (.invokevirtual 194) 131 0 0 8), (28, av_q (.return_)), (29, av_q (.aload_n 0)), (30, av_qc (.invokevirtual 191) 130 0 0 8), (33, av_q (.aload_n 0)), (34, av_qf (.getfield 22) 8 4 2), (37, av_q (.iload_n 3)), (38, av_q (.iload 4)), (40, av_q (.iastore)), (41, av_q (.aload_n 0)), (42, av_qf (.getfield 28) 8 6 2), (45, av_q (.iload_n 3)), (46, av_q (.iconst (-1))), (47, av_q (.iastore)), (48, av_q (.aload_n 0)), (49, av_qf (.getfield 31) 8 7 2), (52, av_q (.iload_n 3)), (53, av_q (.iconst (-1))), (54, av_q (.iastore)), (55, av_q (.aload_n 0)), (56, av_qf (.getfield 37) 8 9 2), (59, av_q (.iload_n 3)), (60, av_q (.iconst (-1))), (61, av_q (.iastore)), (62, av_q (.aload_n 0)), (63, av_qf (.getfield 40) 8 10 2), (66, av_q (.iload_n 3)), (67, av_q (.iconst (-1))), (68, av_q (.iastore)), (69, av_q (.aload_n 0)), (70, av_qf (.getfield 43) 8 11 2), (73, av_q (.iload_n 3)), (74, av_q (.iconst 0)), (75, av_q (.iastore)), (76, av_q (.iconst 0)), (77, av_q (.istore 5)), (79, av_q (.iload 5)), (81, av_q (.iconst 5)), (82, av_qa (.if_icmp .ge 21) 103), (85, av_q (.aload_n 0)), (86, av_qf (.getfield 46) 8 12 2), (89, av_q (.iconst 5)), (90, av_q (.iload_n 3)), (91, av_q (.imul)), (92, av_q (.iload 5)), (94, av_q (.iadd)), (95, av_q (.iconst (-1))), (96, av_q (.iastore)), (97, av_q (.iinc 5 1)), (100, av_qa (.goto (-21)) 79), (103, av_q (.iconst 0)), (104, av_q (.istore 5)), (106, av_q (.iload 5)), (108, av_q (.iconst 3)), (109, av_qa (.if_icmp .ge 33) 142), (112, av_q (.aload_n 0)), (113, av_qf (.getfield 49) 8 13 2), (116, av_q (.iconst 3)), (117, av_q (.iload_n 3)), (118, av_q (.imul)), (119, av_q (.iload 5)), (121, av_q (.iadd)), (122, av_q (.iconst 0)), (123, av_q (.iastore)), (124, av_q (.aload_n 0)), (125, av_qf (.getfield 52) 8 14 2), (128, av_q (.iconst 3)), (129, av_q (.iload_n 3)), (130, av_q (.imul)), (131, av_q (.iload 5)), (133, av_q (.iadd)), (134, av_q (.iconst 0)), (135, av_q (.iastore)), (136, av_q (.iinc 5 1)), (139, av_qa (.goto (-33)) 106), (142, av_q (.aload_n 0)), (143, av_qf (.getfield 25) 8 5 2), (146, av_q (.iload_n 3)), (147, av_q (.aload_n 0)), (148, av_q (.iconst (-1))), (149, av_qc (.invokevirtual 264) 137 1 0 8), (152, av_q (.iastore)), (153, av_q (.iload 4)), (155, av_q (.iconst 2)), (156, av_qa (.if_icmp .ge 22) 178), (159, av_q (.aload_n 0)), (160, av_qf (.getfield 28) 8 6 2), (163, av_q (.iload_n 3)), (164, av_q (.aload_n 0)), (165, av_q (.aload_n 0)), (166, av_qf (.getfield 25) 8 5 2), (169, av_q (.iload_n 3)), (170, av_q (.iaload)), (171, av_qc (.invokevirtual 264) 137 1 0 8), (174, av_q (.iastore)), (175, av_qa (.goto 23) 198), (178, av_q (.aload_n 0)), (179, av_qf (.getfield 31) 8 7 2), (182, av_q (.iload_n 3)), (183, av_q (.aload_n 0)), (184, av_q (.iload_n 1)), (185, av_q (.iload_n 2)), (186, av_q (.iload 4)), (188, av_q (.aload_n 0)), (189, av_qf (.getfield 25) 8 5 2), (192, av_q (.iload_n 3)), (193, av_q (.iaload)), (194, av_qc (.invokevirtual 268) 145 4 0 8), (197, av_q (.iastore)), (198, av_q (.iload 4)), (200, av_qa (.ifCond .ne 65) 265), (203, av_q (.aload_n 0)), (204, av_q (.iload_n 3)), (205, av_q (.iconst 0)), (206, av_qc (.invokevirtual 272) 141 2 0 8), (209, av_q (.aload_n 0)), (210, av_qk (.ldc2_w 276) (168727)), (213, av_qc (.invokevirtual 187) 132 1 0 8), (216, av_qa (.ifCond .eq 21) 237), (219, av_q (.aload_n 0)), (220, av_qc (.invokevirtual 191) 130 0 0 8), (223, av_q (.aload_n 0)), (224, av_qf (.getfield 37) 8 9 2), (227, av_q (.iload_n 3)), (228, av_q (.aload_n 0)), (229, av_q (.iconst 0)), (230, av_q (.sipush 1999)), (233, av_qc (.invokevirtual 232) 134 2 0 8), (236, av_q (.iastore)), (237, av_q (.aload_n 0)), (238, av_qk (.ldc2_w 278) (3913421)), (241, av_qc (.invokevirtual 187) 132 1 0 8), (244, av_qa (.ifCond .eq 21) 265), (247, av_q (.aload_n 0)), (248, av_qc (.invokevirtual 191) 130 0 0 8), (251, av_q (.aload_n 0)), (252, av_qf (.getfield 40) 8 10 2), (255, av_q (.iload_n 3)), (256, av_q (.aload_n 0)), (257, av_q (.iconst 0)), (258, av_q (.iload_n 1)), (259, av_q (.iconst 1)), (260, av_q (.isub)), (261, av_qc (.invokevirtual 232) 134 2 0 8), (264, av_q (.iastore)), (265, av_q (.iload 4)), (267, av_q (.iconst 2)), (268, av_qa (.if_icmp .ne 52) 320), (271, av_q (.aload_n 0)), (272, av_qk (.ldc2_w 280) (2045)), (275, av_qc (.invokevirtual 187) 132 1 0 8), (278, av_qa (.ifCond .eq 42) 320), (281, av_q (.aload_n 0)), (282, av_qc (.invokevirtual 191) 130 0 0 8), (285, av_q (.aload_n 0)), (286, av_qf (.getfield 22) 8 4 2), (289, av_q (.iload_n 3)), (290, av_q (.iconst 3)), (291, av_q (.iastore)), (292, av_q (.aload_n 0)), (293, av_qf (.getfield 28) 8 6 2), (296, av_q (.iload_n 3)), (297, av_q (.aload_n 0)), (298, av_qf (.getfield 25) 8 5 2), (301, av_q (.bipush 12)), (303, av_q (.iload_n 1)), (304, av_q (.imul)), (305, av_q (.aload_n 0)), (306, av_qf (.getfield 31) 8 7 2), (309, av_q (.iload_n 3)), (310, av_q (.iaload)), (311, av_q (.iadd)), (312, av_q (.iaload)), (313, av_q (.iastore)), (314, av_q (.aload_n 0)), (315, av_q (.iload_n 3)), (316, av_q (.iconst 1)), (317, av_qc (.invokevirtual 272) 141 2 0 8), (320, av_q (.aload_n 0)), (321, av_q (.iload_n 3)), (322, av_qc (.invokevirtual 282) 143 1 0 8), (325, av_q (.aload_n 0)), (326, av_qc (.invokevirtual 286) 135 0 0 8), (329, av_q (.return_))]
def cd_147 : List (Nat × av_E) := [(0, av_q (.iload_n 2)), (1, av_q (.istore_n 3)), (2, av_q (.aload_n 0)), (3, av_qf (.getfield 173) 8 22 0), (6, av_qa (.ifCond .ne 7) 13), (9, av_q (.aload_n 0)), (10, av_qc (.invokevirtual 194) 131 0 0 8), (13, av_q (.aload_n 0)), (14, av_qf (.getfield 173) 8 22 0), (17, av_qa (.ifCond .eq 22) 39), (20, av_q (.aload_n 0)), (21, av_qf (.getfield 183) 8 25 3), (24, av_qa (.ifCond .ne 15) 39), (27, av_q (.aload_n 0)), (28, av_q (.iload_n 1)), (29, av_q (.iload_n 3)), (30, av_qc (.invokevirtual 289) 146 2 0 8), (33, av_q (.iinc 3 1)), (36, av_qa (.goto (-23)) 13), (39, av_q (.aload_n 0)), (40, av_qf (.getfield 183) 8 25 3), (43, av_qa (.ifCond .eq 7) 50), (46, av_q (.iconst (-1))), (47, av_qa (.goto 4) 51), (50, av_q (.iload_n 3)), (51, av_q (.ireturn))]
def cd_148 : List (Nat × av_E) := [(0, av_q (.iload_n 1)), (1, av_qa (.ifCond .lt 11) 12), (4, av_q (.iload_n 1)), (5, av_q (.aload_n 0)), (6, av_qf (.getfield 148) 8 17 0), (9, av_qa (.if_icmp .le 6) 15), (12, av_q (.bipush (-2))), (14, av_q (.ireturn)), (15, av_q (.aload_n 0)), (16, av_qf (.getfield 7) 8 0 2), (19, av_q (.iconst 0)), (20, av_q (.iaload)), (21, av_q (.bipush 16)), (23, av_qa (.if_icmp .ne 6) 29), (26, av_q (.bipush (-3))), (28, av_q (.ireturn)), (29, av_q (.aload_n 0)), (30, av_q (.iload_n 1)), (31, av_qc (.invokevirtual 293) 136 1 0 8), (34, av_q (.aload_n 0)), (35, av_q (.aload_n 0)), (36, av_qf (.getfield 7) 8 0 2), (39, av_q (.iconst 0)), (40, av_q (.iaload)), (41, av_q (.iconst 0)), (42, av_qc (.invokevirtual 296) 147 2 0 8), (45, av_q (.istore_n 2)), (46, av_q (.iload_n 2)), (47, av_qa (.ifCond .ge 5) 52), (50, av_q (.iconst (-1))), (51, av_q (.ireturn)), (52, av_q (.aload_n 0)), (53, av_qf (.getfield 19) 8 3 2), (56, av_q (.aload_n 0)), (57, av_qf (.getfield 7) 8 0 2), (60, av_q (.iconst 0)), (61, av_q (.iaload)), (62, av_q (.iload_n 2)), (63, av_q (.iastore)), (64, av_q (.aload_n 0)), (65, av_qf (.getfield 7) 8 0 2), (68, av_q (.iconst 0)), (69, av_q (.dup2)), (70, av_q (.iaload)), (71, av_q (.iconst 1)), (72, av_q (.iadd)), (73, av_q (.iastore)), (74, av_q (.aload_n 0)), (75, av_qf (.getfield 7) 8 0 2), (78, av_q (.iconst 0)), (79, av_q (.iaload)), (80, av_q (.iconst 1)), (81, av_q (.isub)), (82, av_q (.ireturn))]
def cd_149 : List (Nat × av_E) := [(0, av_q (.iload_n 1)), (1, av_qa (.ifCond .lt 17) 18), (4, av_q (.iload_n 1)), (5, av_q (.aload_n 0)), (6, av_qf (.getfield 7) 8 0 2), (9, av_q (.iconst 0)), (10, av_q (.iaload)), (11, av_qa (.if_icmp .ge 7) 18), (14, av_q (.iconst 1)), (15, av_qa (.goto 4) 19), (18, av_q (.iconst 0)), (19, av_qa (.ireturn) 1)]
def cd_150 : List (Nat × av_E) := [(0, av_q (.iload_n 1)), (1, av_qa (.ifCond .lt 17) 18), (4, av_q (.iload_n 1)), (5, av_q (.aload_n 0)), (6, av_qf (.getfield 13) 8 1 2), (9, av_q (.iconst 0)), (10, av_q (.iaload)), (11, av_qa (.if_icmp .ge 7) 18), (14, av_q (.iconst 1)), (15, av_qa (.goto 4) 19), (18, av_q (.iconst 0)), (19, av_qa (.ireturn) 1)]
def cd_151 : List (Nat × av_E) := [(0, av_q (.aload_n 0)), (1, av_q (.iload_n 1)), (2, av_qc (.invokevirtual 299) 149 1 0 8), (5, av_qa (.ifCond .eq 15) 20), (8, av_q (.iload_n 2)), (9, av_qa (.ifCond .lt 11) 20), (12, av_q (.iload_n 2)), (13, av_q (.aload_n 0)), (14, av_qf (.getfield 148) 8 17 0), (17, av_qa (.if_icmp .le 6) 23), (20, av_q (.bipush (-2))), (22, av_q (.ireturn)), (23, av_q (.aload_n 0)), (24, av_q (.iload_n 2)), (25, av_qc (.invokevirtual 293) 136 1 0 8), (28, av_q (.aload_n 0)), (29, av_q (.iload_n 1)), (30, av_q (.aload_n 0)), (31, av_qf (.getfield 19) 8 3 2), (34, av_q (.iload_n 1)), (35, av_q (.iaload)), (36, av_qc (.invokevirtual 296) 147 2 0 8), (39, av_q (.istore_n 3)), (40, av_q (.iload_n 3)), (41, av_qa (.ifCond .ge 5) 46), (44, av_q (.iconst (-1))), (45, av_q (.ireturn)), (46, av_q (.aload_n 0)), (47, av_qf (.getfield 19) 8 3 2), (50, av_q (.iload_n 1)), (51, av_q (.iload_n 3)), (52, av_q (.iastore)), (53, av_q (.iload_n 3)), (54, av_q (.ireturn))]
def cd_152 : List (Nat × av_E) := [(0, av_q (.aload_n 0)), (1, av_qk (.ldc2_w 302) (378020)), (4, av_qc (.invokevirtual 187) 132 1 0 8), (7, av_qa (.ifCond .eq 7) 14), (10, av_q (.iconst 0)), (11, av_qa (.goto 32) 43), (14, av_q (.aload_n 0)), (15, av_qk (.ldc2_w 304) (70340)), (18, av_qc (.invokevirtual 187) 132 1 0 8), (21, av_qa (.ifCond .eq 7) 28), (24, av_q (.iconst 1)), (25, av_qa (.goto 18) 43), (28, av_q (.aload_n 0)), (29, av_qk (.ldc2_w 253) (357970)), (32, av_qc (.invokevirtual 187) 132 1 0 8), (35, av_qa (.ifCond .eq 7) 42), (38, av_q (.iconst 2)), (39, av_qa (.goto 4) 43), (42, av_q (.iconst (-1))), (43, av_q (.istore_n 1)), (44, av_q (.iload_n 1)), (45, av_qa (.ifCond .ge 10) 55), (48, av_q (.aload_n 0)), (49, av_qc (.invokevirtual 194) 131 0 0 8), (52, av_qa (.goto 7) 59), (55, av_q (.aload_n 0)), (56, av_qc (.invokevirtual 191) 130 0 0 8), (59, av_q (.iload_n 1)), (60, av_q (.ireturn))]
def cd_153 : List (Nat × av_E) := [(0, av_q (.aload_n 0)), (1, av_q (.lload_n 1)), (2, av_qc (.invokevirtual 187) 132 1 0 8), (5, av_qa (.ifCond .eq 7) 12), (8, av_q (.iconst 0)), (9, av_qa (.goto 29) 38), (12, av_q (.aload_n 0)), (13, av_q (.lload_n 3)), (14, av_qc (.invokevirtual 187) 132 1 0 8), (17, av_qa (.ifCond .eq 7) 24), (20, av_q (.iconst 1)), (21, av_qa (.goto 17) 38), (24, av_q (.aload_n 0)), (25, av_q (.lload 5)), (27, av_qc (.invokevirtual 187) 132 1 0 8), (30, av_qa (.ifCond .eq 7) 37), (33, av_q (.iconst 2)), (34, av_qa (.goto 4) 38), (37, av_q (.iconst (-1))), (38, av_q (.istore 7)), (40, av_q (.iload 7)), (42, av_qa (.ifCond .ge 10) 52), (45, av_q (.aload_n 0)), (46, av_qc (.invokevirtual 194) 131 0 0 8), (49, av_qa (.goto 7) 56), (52, av_q (.aload_n 0)), (53, av_qc (.invokevirtual 191) 130 0 0 8), (56, av_q (.iload 7)), (58, av_q (.ireturn))]
def cd_154 : List (Nat × av_E) := [(0, av_q (.aload_n 0)), (1, av_qk (.ldc2_w 213) (18379)), (4, av_qc (.invokevirtual 187) 132 1 0 8), (7, av_qa (.ifCond .eq 93) 100), (10, av_q (.aload_n 0)), (11, av_qc (.invokevirtual 191) 130 0 0 8), (14, av_q (.aload_n 0)), (15, av_qk (.ldc2_w 306) (1065)), (18, av_qc (.invokevirtual 187) 132 1 0 8), (21, av_qa (.ifCond .eq 7) 28), (24, av_q (.iconst 3)), (25, av_qa (.goto 4) 29), (28, av_q (.iconst (-1))), (29, av_q (.istore_n 2)), (30, av_q (.iload_n 2)), (31, av_q (.iconst 3)), (32, av_qa (.if_icmp .ne 10) 42), (35, av_q (.aload_n 0)), (36, av_qc (.invokevirtual 191) 130 0 0 8), (39, av_qa (.goto 17) 56), (42, av_q (.aload_n 0)), (43, av_qk (.ldc2_w 223) (326396)), (46, av_qk (.ldc2_w 225) (459761)), (49, av_qk (.ldc2_w 227) (7219835)), (52, av_qc (.invokevirtual 308) 153 3 0 8), (55, av_q (.istore_n 2)), (56, av_q (.aload_n 0)), (57, av_qc (.invokevirtual 312) 152 0 0 8), (60, av_q (.istore_n 3)), (61, av_q (.iconst 0)), (62, av_q (.istore 4)), (64, av_q (.iload 4)), (66, av_q (.iconst 3)), (67, av_qa (.if_icmp .ge 30) 97), (70, av_q (.iload_n 2)), (71, av_q (.iconst 3)), (72, av_qa (.if_icmp .eq 9) 81), (75, av_q (.iload_n 2)), (76, av_q (.iload 4)), (78, av_qa (.if_icmp .ne 13) 91), (81, av_q (.aload_n 0)), (82, av_qf (.getfield 55) 8 15 2), (85, av_q (.iload_n 1)), (86, av_q (.iload 4)), (88, av_q (.iadd)), (89, av_q (.iload_n 3)), (90, av_q (.iastore)), (91, av_q (.iinc 4 1)), (94, av_qa (.goto (-30)) 64), (97, av_qa (.goto 357) 454), (100, av_q (.aload_n 0)), (101, av_qk (.ldc2_w 209) (8094240)), (104, av_qc (.invokevirtual 187) 132 1 0 8), (107, av_qa (.ifCond .eq 22) 129), (110, av_q (.aload_n 0)), (111, av_qc (.invokevirtual 191) 130 0 0 8), (114, av_q (.aload_n 0)), (115, av_qf (.getfield 55) 8 15 2), (118, av_q (.iload_n 1)), (119, av_q (.iconst 3)), (120, av_q (.iadd)), (121, av_q (.aload_n 0)), (122, av_qc (.invokevirtual 312) 152 0 0 8), (125, av_q (.iastore)), (126, av_qa (.goto 328) 454), (129, av_q (.aload_n 0)), (130, av_qk (.ldc2_w 217) (40187)), (133, av_qc (.invokevirtual 187) 132 1 0 8), (136, av_qa (.ifCond .eq 22) 158), (139, av_q (.aload_n 0)), (140, av_qc (.invokevirtual 191) 130 0 0 8), (143, av_q (.aload_n 0)), (144, av_qf (.getfield 55) 8 15 2), (147, av_q (.iload_n 1)), (148, av_q (.iconst 4)), (149, av_q (.iadd)), (150, av_q (.aload_n 0)), (151, av_qc (.invokevirtual 312) 152 0 0 8), (154, av_q (.iastore)), (155, av_qa (.goto 299) 454), (158, av_q (.aload_n 0)), (159, av_qk (.ldc2_w 215) (393)), (162, av_qc (.invokevirtual 187) 132 1 0 8), (165, av_qa (.ifCond .eq 22) 187), (168, av_q (.aload_n 0)), (169, av_qc (.invokevirtual 191) 130 0 0 8), (172, av_q (.aload_n 0)), (173, av_qf (.getfield 55) 8 15 2), (176, av_q (.iload_n 1)), (177, av_q (.iconst 5)), (178, av_q (.iadd)), (179, av_q (.aload_n 0)), (180, av_qc (.invokevirtual 312) 152 0 0 8), (183, av_q (.iastore)), (184, av_qa (.goto 270) 454), (187, av_q (.aload_n 0)), (188, av_qk (.ldc2_w 276) (168727)), (191, av_qc (.invokevirtual 187) 132 1 0 8), (194, av_qa (.ifCond .eq 32) 226), (197, av_q (.aload_n 0)), (198, av_qc (.invokevirtual 191) 130 0 0 8), (201, av_q (.aload_n 0)), (202, av_qf (.getfield 55) 8 15 2), (205, av_q (.iload_n 1)), (206, av_q (.bipush 6)), (208, av_q (.iadd)), (209, av_q (.aload_n 0)), (210, av_qk (.ldc2_w 315) (131360)), (213, av_qk (.ldc2_w 317) (1250362)), (216, av_qk (.ldc2_w 319) (-9)), (219, av_qc (.invokevirtual 308) 153 3 0 8), (222, av_q (.iastore)), (223, av_qa (.goto 231) 454), (226, av_q (.aload_n 0)), (227, av_qk (.ldc2_w 321) (6409157)), (230, av_qc (.invokevirtual 187) 132 1 0 8), (233, av_qa (.ifCond .eq 27) 260), (236, av_q (.aload_n 0)), (237, av_qc (.invokevirtual 191) 130 0 0 8), (240, av_q (.aload_n 0)), (241, av_qf (.getfield 55) 8 15 2), (244, av_q (.iload_n 1)), (245, av_q (.bipush 7)), (247, av_q (.iadd)), (248, av_q (.aload_n 0)), (249, av_q (.iconst 0)), (250, av_q (.sipush 999)), (253, av_qc (.invokevirtual 232) 134 2 0 8), (256, av_q (.iastore)), (257, av_qa (.goto 197) 454), (260, av_q (.aload_n 0)), (261, av_qk (.ldc2_w 323) (7496615453)), (264, av_qc (.invokevirtual 187) 132 1 0 8), (267, av_qa (.ifCond .eq 27) 294), (270, av_q (.aload_n 0)), (271, av_qc (.invokevirtual 191) 130 0 0 8), (274, av_q (.aload_n 0)), (275, av_qf (.getfield 55) 8 15 2), (278, av_q (.iload_n 1)), (279, av_q (.bipush 8)), (281, av_q (.iadd)), (282, av_q (.aload_n 0)), (283, av_q (.iconst 0)), (284, av_q (.sipush 999)), (287, av_qc (.invokevirtual 232) 134 2 0 8), (290, av_q (.iastore)), (291, av_qa (.goto 163) 454), (294, av_q (.aload_n 0)), (295, av_qk (.ldc2_w 280) (2045)), (298, av_qc (.invokevirtual 187) 132 1 0 8), (301, av_qa (.ifCond .eq 32) 333), (304, av_q (.aload_n 0)), (305, av_qc (.invokevirtual 191) 130 0 0 8), (308, av_q (.aload_n 0)), (309, av_qf (.getfield 55) 8 15 2), (312, av_q (.iload_n 1)), (313, av_q (.bipush 9)), (315, av_q (.iadd)), (316, av_q (.aload_n 0)), (317, av_qk (.ldc2_w 215) (393)), (320, av_qk (.ldc2_w 325) (10354323)), (323, av_qk (.ldc2_w 319) (-9)), (326, av_qc (.invokevirtual 308) 153 3 0 8), (329, av_q (.iastore)), (330, av_qa (.goto 124) 454), (333, av_q (.aload_n 0)), (334, av_qk (.ldc2_w 327) (129532)), (337, av_qc (.invokevirtual 187) 132 1 0 8), (340, av_qa (.ifCond .eq 32) 372), (343, av_q (.aload_n 0)), (344, av_qc (.invokevirtual 191) 130 0 0 8), (347, av_q (.aload_n 0)), (348, av_qf (.getfield 55) 8 15 2), (351, av_q (.iload_n 1)), (352, av_q (.bipush 10)), (354, av_q (.iadd)), (355, av_q (.aload_n 0)), (356, av_qk (.ldc2_w 329) (3379448)), (359, av_qk (.ldc2_w 331) (237458)), (362, av_qk (.ldc2_w 333) (286880)), (365, av_qc (.invokevirtual 308) 153 3 0 8), (368, av_q (.iastore)), (369, av_qa (.goto 85) 454), (372, av_q (.aload_n 0)), (373, av_qk (.ldc2_w 219) (82516)), (376, av_qc (.invokevirtual 187) 132 1 0 8), (379, av_qa (.ifCond .eq 32) 411), (382, av_q (.aload_n 0)), (383, av_qc (.invokevirtual 191) 130 0 0 8), (386, av_q (.aload_n 0)), (387, av_qf (.getfield 55) 8 15 2), (390, av_q (.iload_n 1)), (391, av_q (.bipush 11)), (393, av_q (.iadd)), (394, av_q (.aload_n 0)), (395, av_qk (.ldc2_w 333) (286880)), (398, av_qk (.ldc2_w 213) (18379)), (401, av_qk (.ldc2_w 319) (-9)), (404, av_qc (.invokevirtual 308) 153 3 0 8), (407, av_q (.iastore)), (408, av_qa (.goto 46) 454), (411, av_q (.aload_n 0)), (412, av_qk (.ldc2_w 335) (361379)), (415, av_qc (.invokevirtual 187) 132 1 0 8), (418, av_qa (.ifCond .eq 32) 450), (421, av_q (.aload_n 0)), (422, av_qc (.invokevirtual 191) 130 0 0 8), (425, av_q (.aload_n 0)), (426, av_qf (.getfield 55) 8 15 2), (429, av_q (.iload_n 1)), (430, av_q (.bipush 12)), (432, av_q (.iadd)), (433, av_q (.aload_n 0)), (434, av_qk (.ldc2_w 337) (798894590)), (437, av_qk (.ldc2_w 302) (378020)), (440, av_qk (.ldc2_w 304) (70340)), (443, av_qc (.invokevirtual 308) 153 3 0 8), (446, av_q (.iastore)), (447, av_qa (.goto 7) 454), (450, av_q (.aload_n 0)), (451, av_qc (.invokevirtual 194) 131 0 0 8), (454, av_q (.aload_n 0)), (455, av_qc (.invokevirtual 286) 135 0 0 8), (458, av_q (.return_))]
def cd_155 : List (Nat × av_E) := [(0, av_q (.iconst 0)), (1, av_q (.istore_n 2)), (2, av_q (.iload_n 2)), (3, av_q (.bipush 13)), (5, av_qa (.if_icmp .ge 19) 24), (8, av_q (.aload_n 0)), (9, av_qf (.getfield 55) 8 15 2), (12, av_q (.iload_n 1)), (13, av_q (.iload_n 2)), (14, av_q (.iadd)), (15, av_q (.bipush (-2))), (17, av_q (.iastore)), (18, av_q (.iinc 2 1)), (21, av_qa (.goto (-19)) 2), (24, av_q (.iconst 0)), (25, av_q (.istore_n 2)), (26, av_q (.aload_n 0)), (27, av_qf (.getfield 173) 8 22 0), (30, av_qa (.ifCond .eq 34) 64), (33, av_q (.aload_n 0)), (34, av_qf (.getfield 183) 8 25 3), (37, av_qa (.ifCond .ne 27) 64), (40, av_q (.iload_n 2)), (41, av_q (.bipush 20)), (43, av_qa (.if_icmp .ne 10) 53), (46, av_q (.aload_n 0)), (47, av_qc (.invokevirtual 194) 131 0 0 8), (50, av_qa (.goto 8) 58), (53, av_q (.aload_n 0)), (54, av_q (.iload_n 1)), (55, av_qc (.invokevirtual 339) 154 1 0 8), (58, av_q (.iinc 2 1)), (61, av_qa (.goto (-35)) 26), (64, av_q (.aload_n 0)), (65, av_qf (.getfield 55) 8 15 2), (68, av_q (.iload_n 1)), (69, av_q (.bipush 13)), (71, av_q (.iadd)), (72, av_q (.iload_n 2)), (73, av_q (.iastore)), (74, av_q (.aload_n 0)), (75, av_qf (.getfield 183) 8 25 3), (78, av_qa (.ifCond .ne 7) 85), (81, av_q (.iconst 1)), (82, av_qa (.goto 4) 86), (85, av_q (.iconst 0)), (86, av_qa (.ireturn) 1)]
def cd_156 : List (Nat × av_E) := [(0, av_q (.iload_n 1)), (1, av_qa (.ifCond .lt 11) 12), (4, av_q (.iload_n 1)), (5, av_q (.aload_n 0)), (6, av_qf (.getfield 148) 8 17 0), (9, av_qa (.if_icmp .le 6) 15), (12, av_q (.bipush (-2))), (14, av_q (.ireturn)), (15, av_q (.aload_n 0)), (16, av_qf (.getfield 13) 8 1 2), (19, av_q (.iconst 0)), (20, av_q (.iaload)), (21, av_q (.bipush 8)), (23, av_qa (.if_icmp .ne 6) 29), (26, av_q (.bipush (-3))), (28, av_q (.ireturn)), (29, av_q (.aload_n 0)), (30, av_q (.iload_n 1)), (31, av_qc (.invokevirtual 293) 136 1 0 8), (34, av_q (.aload_n 0)), (35, av_q (.bipush 14)), (37, av_q (.aload_n 0)), (38, av_qf (.getfield 13) 8 1 2), (41, av_q (.iconst 0)), (42, av_q (.iaload)), (43, av_q (.imul)), (44, av_qc (.invokevirtual 342) 155 1 0 8), (47, av_qa (.ifCond .ne 5) 52), (50, av_q (.iconst (-1))), (51, av_q (.ireturn)), (52, av_q (.aload_n 0)), (53, av_qf (.getfield 13) 8 1 2), (56, av_q (.iconst 0)), (57, av_q (.dup2)), (58, av_q (.iaload)), (59, av_q (.iconst 1)), (60, av_q (.iadd)), (61, av_q (.iastore)), (62, av_q (.aload_n 0)), (63, av_qf (.getfield 13) 8 1 2), (66, av_q (.iconst 0)), (67, av_q (.iaload)), (68, av_q (.iconst 1)), (69, av_q (.isub)), (70, av_q (.ireturn))]
def cd_157 : List (Nat × av_E) := [(0, av_q (.iload_n 1)), (1, av_qa (.ifCond .lt 11) 12), (4, av_q (.iload_n 1)), (5, av_q (.aload_n 0)), (6, av_qf (.getfield 148) 8 17 0), (9, av_qa (.if_icmp .le 6) 15), (12, av_q (.bipush (-2))), (14, av_q (.ireturn)), (15, av_q (.aload_n 0)), (16, av_qf (.getfield 16) 8 2 2), (19, av_q (.iconst 0)), (20, av_q (.iaload)), (21, av_q (.bipush 6)), (23, av_qa (.if_icmp .ne 6) 29), (26, av_q (.bipush (-3))), (28, av_q (.ireturn)), (29, av_q (.aload_n 0)), (30, av_q (.iload_n 1)), (31, av_qc (.invokevirtual 293) 136 1 0 8), (34, av_q (.aload_n 0)), (35, av_qf (.getfield 173) 8 22 0), (38, av_qa (.ifCond .ne 7) 45), (41, av_q (.aload_n 0)), (42, av_qc (.invokevirtual 194) 131 0 0 8), (45, av_q (.aload_n 0)), (46, av_q (.bipush 112)), (48, av_q (.bipush 14)), (50, av_q (.aload_n 0)), (51, av_qf (.getfield 16) 8 2 2), (54, av_q (.iconst 0)), (55, av_q (.iaload)), (56, av_q (.imul)), (57, av_q (.iadd)), (58, av_qc (.invokevirtual 342) 155 1 0 8), (61, av_qa (.ifCond .ne 5) 66), (64, av_q (.iconst (-1))), (65, av_q (.ireturn)), (66, av_q (.aload_n 0)), (67, av_qf (.getfield 16) 8 2 2), (70, av_q (.iconst 0)), (71, av_q (.dup2)), (72, av_q (.iaload)), (73, av_q (.iconst 1)), (74, av_q (.iadd)), (75, av_q (.iastore)), (76, av_q (.aload_n 0)), (77, av_qf (.getfield 16) 8 2 2), (80, av_q (.iconst 0)), (81, av_q (.iaload)), (82, av_q (.iconst 1)), (83, av_q (.isub)), (84, av_q (.ireturn))]
def cd_158 : List (Nat × av_E) := [(0, av_q (.aload_n 0)), (1, av_qf (.getfield 62) 8 18 0), (4, av_q (.ireturn))]
def cd_159 : List (Nat × av_E) := [(0, av_q (.iconst 0)), (1, av_q (.istore_n 3)), (2, av_q (.iload_n 3)), (3, av_q (.bipush 13)), (5, av_qa (.if_icmp .ge 41) 46), (8, av_q (.aload_n 0)), (9, av_qf (.getfield 66) 8 26 2), (12, av_q (.iload_n 3)), (13, av_q (.iload_n 3)), (14, av_q (.bipush 6)), (16, av_qa (.if_icmp .ge 7) 23), (19, av_q (.iconst 1)), (20, av_qa (.goto 19) 39), (23, av_q (.iload_n 3)), (24, av_q (.bipush 7)), (26, av_q (.bipush 8)), (28, av_qc (.invokestatic 176) 127 3 2 8), (31, av_qa (.ifCond .eq 7) 38), (34, av_q (.iconst (-1))), (35, av_qa (.goto 4) 39), (38, av_q (.iconst 0)), (39, av_q (.iastore)), (40, av_q (.iinc 3 1)), (43, av_qa (.goto (-41)) 2), (46, av_q (.iconst 0)), (47, av_q (.istore_n 3)), (48, av_q (.iload_n 3)), (49, av_q (.bipush 13)), (51, av_qa (.if_icmp .ge 42) 93), (54, av_q (.aload_n 0)), (55, av_qf (.getfield 55) 8 15 2), (58, av_q (.bipush 14)), (60, av_q (.iload_n 1)), (61, av_q (.imul)), (62, av_q (.iload_n 3)), (63, av_q (.iadd)), (64, av_q (.iaload)), (65, av_q (.bipush (-2))), (67, av_qa (.if_icmp .eq 20) 87), (70, av_q (.aload_n 0)), (71, av_qf (.getfield 66) 8 26 2), (74, av_q (.iload_n 3)), (75, av_q (.aload_n 0)), (76, av_qf (.getfield 55) 8 15 2), (79, av_q (.bipush 14)), (81, av_q (.iload_n 1)), (82, av_q (.imul)), (83, av_q (.iload_n 3)), (84, av_q (.iadd)), (85, av_q (.iaload)), (86, av_q (.iastore)), (87, av_q (.iinc 3 1)), (90, av_qa (.goto (-42)) 48), (93, av_q (.iconst 0)), (94, av_q (.istore_n 3)), (95, av_q (.iload_n 3)), (96, av_q (.aload_n 0)), (97, av_qf (.getfield 16) 8 2 2), (100, av_q (.iconst 0)), (101, av_q (.iaload)), (102, av_qa (.if_icmp .ge 76) 178), (105, av_q (.iconst 0)), (106, av_q (.istore 4)), (108, av_q (.iload 4)), (110, av_q (.bipush 13)), (112, av_qa (.if_icmp .ge 60) 172), (115, av_q (.iload_n 2)), (116, av_q (.iload_n 3)), (117, av_q (.ishr)), (118, av_q (.iconst 1)), (119, av_q (.iand)), (120, av_q (.iconst 1)), (121, av_qa (.if_icmp .ne 45) 166), (124, av_q (.aload_n 0)), (125, av_qf (.getfield 55) 8 15 2), (128, av_q (.bipush 112)), (130, av_q (.bipush 14)), (132, av_q (.iload_n 3)), (133, av_q (.imul)), (134, av_q (.iadd)), (135, av_q (.iload 4)), (137, av_q (.iadd)), (138, av_q (.iaload)), (139, av_q (.bipush (-2))), (141, av_qa (.if_icmp .eq 25) 166), (144, av_q (.aload_n 0)), (145, av_qf (.getfield 66) 8 26 2), (148, av_q (.iload 4)), (150, av_q (.aload_n 0)), (151, av_qf (.getfield 55) 8 15 2), (154, av_q (.bipush 112)), (156, av_q (.bipush 14)), (158, av_q (.iload_n 3)), (159, av_q (.imul)), (160, av_q (.iadd)), (161, av_q (.iload 4)), (163, av_q (.iadd)), (164, av_q (.iaload)), (165, av_q (.iastore)), (166, av_q (.iinc 4 1)), (169, av_qa (.goto (-61)) 108), (172, av_q (.iinc 3 1)), (175, av_qa (.goto (-80)) 95), (178, av_q (.return_))]
def cd_160 : List (Nat × av_E) := [(0, av_q (.aload_n 0)), (1, av_q (.iload_n 1)), (2, av_qc (.invokevirtual 345) 150 1 0 8), (5, av_qa (.ifCond .eq 13) 18), (8, av_q (.iload_n 2)), (9, av_q (.iconst 0)), (10, av_q (.bipush 13)), (12, av_qc (.invokestatic 176) 127 3 2 8), (15, av_qa (.ifCond .ne 6) 21), (18, av_q (.bipush (-2))), (20, av_q (.ireturn)), (21, av_q (.iload_n 2)), (22, av_q (.bipush 13)), (24, av_qa (.if_icmp .ne 16) 40), (27, av_q (.aload_n 0)), (28, av_qf (.getfield 55) 8 15 2), (31, av_q (.bipush 14)), (33, av_q (.iload_n 1)), (34, av_q (.imul)), (35, av_q (.bipush 13)), (37, av_q (.iadd)), (38, av_q (.iaload)), (39, av_q (.ireturn)), (40, av_q (.aload_n 0)), (41, av_q (.iload_n 1)), (42, av_q (.iconst 0)), (43, av_qc (.invokevirtual 348) 159 2 0 8), (46, av_q (.aload_n 0)), (47, av_qf (.getfield 66) 8 26 2), (50, av_q (.iload_n 2)), (51, av_q (.iaload)), (52, av_q (.ireturn))]
def cd_161 : List (Nat × av_E) := [(0, av_q (.aload_n 0)), (1, av_q (.iload_n 1)), (2, av_qc (.invokevirtual 299) 149 1 0 8), (5, av_qa (.ifCond .eq 17) 22), (8, av_q (.iload_n 2)), (9, av_qa (.ifCond .lt 13) 22), (12, av_q (.iload_n 2)), (13, av_q (.aload_n 0)), (14, av_qf (.getfield 19) 8 3 2), (17, av_q (.iload_n 1)), (18, av_q (.iaload)), (19, av_qa (.if_icmp .lt 6) 25), (22, av_q (.bipush (-2))), (24, av_q (.ireturn)), (25, av_q (.bipush 12)), (27, av_q (.iload_n 1)), (28, av_q (.imul)), (29, av_q (.iload_n 2)), (30, av_q (.iadd)), (31, av_q (.istore 4)), (33, av_q (.iload_n 3)), (34, av_q (.bipush 10)), (36, av_q (.bipush 14)), (38, av_qc (.invokestatic 176) 127 3 2 8), (41, av_qa (.ifCond .eq 18) 59), (44, av_q (.aload_n 0)), (45, av_qf (.getfield 46) 8 12 2), (48, av_q (.iconst 5)), (49, av_q (.iload 4)), (51, av_q (.imul)), (52, av_q (.iload_n 3)), (53, av_q (.iadd)), (54, av_q (.bipush 10)), (56, av_q (.isub)), (57, av_q (.iaload)), (58, av_q (.ireturn)), (59, av_q (.iload_n 3)), (60, av_qw (.tableswitch 100 0 6 #[44, 52, 60, 68, 76, 84, 92]) 44), (104, av_q (.aload_n 0)), (105, av_qf (.getfield 22) 8 4 2), (108, av_q (.iload 4)), (110, av_q (.iaload)), (111, av_q (.ireturn)), (112, av_q (.aload_n 0)), (113, av_qf (.getfield 25) 8 5 2), (116, av_q (.iload 4)), (118, av_q (.iaload)), (119, av_q (.ireturn)), (120, av_q (.aload_n 0)), (121, av_qf (.getfield 28) 8 6 2), (124, av_q (.iload 4)), (126, av_q (.iaload)), (127, av_q (.ireturn)), (128, av_q (.aload_n 0)), (129, av_qf (.getfield 31) 8 7 2), (132, av_q (.iload 4)), (134, av_q (.iaload)), (135, av_q (.ireturn)), (136, av_q (.aload_n 0)), (137, av_qf (.getfield 34) 8 8 2), (140, av_q (.iload 4)), (142, av_q (.iaload)), (143, av_q (.ireturn)), (144, av_q (.aload_n 0)), (145, av_qf (.getfield 37) 8 9 2), (148, av_q (.iload 4)), (150, av_q (.iaload)), (151, av_q (.ireturn)), (152, av_q (.aload_n 0)), (153, av_qf (.getfield 40) 8 10 2), (156, av_q (.iload 4)), (158, av_q (.iaload)), (159, av_q (.ireturn)), (160, av_q (.bipush (-2))), (162, av_q (.ireturn))]
def cd_162 : List (Nat × av_E) := [(0, av_q (.aload_n 0)), (1, av_q (.aload_n 0)), (2, av_qf (.getfield 19) 8 3 2), (5, av_q (.iload_n 1)), (6, av_q (.iaload)), (7, av_qf (.putfield 351) 8 27 0), (10, av_q (.iconst 0)), (11, av_q (.istore_n 2)), (12, av_q (.iload_n 2)), (13, av_q (.aload_n 0)), (14, av_qf (.getfield 351) 8 27 0), (17, av_qa (.if_icmp .ge 230) 247), (20, av_q (.bipush 12)), (22, av_q (.iload_n 1)), (23, av_q (.imul)), (24, av_q (.iload_n 2)), (25, av_q (.iadd)), (26, av_q (.istore_n 3)), (27, av_q (.aload_n 0)), (28, av_qf (.getfield 69) 8 30 2), (31, av_q (.iload_n 2)), (32, av_q (.aload_n 0)), (33, av_qf (.getfield 22) 8 4 2), (36, av_q (.iload_n 3)), (37, av_q (.iaload)), (38, av_q (.iastore)), (39, av_q (.aload_n 0)), (40, av_qf (.getfield 72) 8 31 2), (43, av_q (.iload_n 2)), (44, av_q (.aload_n 0)), (45, av_qf (.getfield 34) 8 8 2), (48, av_q (.iload_n 3)), (49, av_q (.iaload)), (50, av_q (.iastore)), (51, av_q (.aload_n 0)), (52, av_qf (.getfield 75) 8 32 2), (55, av_q (.iload_n 2)), (56, av_q (.aload_n 0)), (57, av_qf (.getfield 43) 8 11 2), (60, av_q (.iload_n 3)), (61, av_q (.iaload)), (62, av_q (.iastore)), (63, av_q (.aload_n 0)), (64, av_qf (.getfield 78) 8 33 2), (67, av_q (.iload_n 2)), (68, av_q (.aload_n 0)), (69, av_qf (.getfield 37) 8 9 2), (72, av_q (.iload_n 3)), (73, av_q (.iaload)), (74, av_q (.iastore)), (75, av_q (.aload_n 0)), (76, av_qf (.getfield 81) 8 34 2), (79, av_q (.iload_n 2)), (80, av_q (.aload_n 0)), (81, av_qf (.getfield 31) 8 7 2), (84, av_q (.iload_n 3)), (85, av_q (.iaload)), (86, av_q (.iastore)), (87, av_q (.aload_n 0)), (88, av_qf (.getfield 84) 8 35 2), (91, av_q (.iload_n 2)), (92, av_q (.aload_n 0)), (93, av_qf (.getfield 25) 8 5 2), (96, av_q (.iload_n 3)), (97, av_q (.iaload)), (98, av_q (.iastore)), (99, av_q (.aload_n 0)), (100, av_qf (.getfield 87) 8 36 2), (103, av_q (.iload_n 2)), (104, av_q (.aload_n 0)), (105, av_qf (.getfield 28) 8 6 2), (108, av_q (.iload_n 3)), (109, av_q (.iaload)), (110, av_q (.iastore)), (111, av_q (.aload_n 0)), (112, av_qf (.getfield 90) 8 37 2), (115, av_q (.iload_n 2)), (116, av_q (.aload_n 0)), (117, av_qf (.getfield 40) 8 10 2), (120, av_q (.iload_n 3)), (121, av_q (.iaload)), (122, av_qa (.ifCond .lt 21) 143), (125, av_q (.aload_n 0)), (126, av_qf (.getfield 130) 8 54 2), (129, av_q (.aload_n 0)), (130, av_qf (.getfield 40) 8 10 2), (133, av_q (.iload_n 3)), (134, av_q (.iaload)), (135, av_q (.baload)), (136, av_qa (.ifCond .ne 7) 143), (139, av_q (.iconst 1)), (140, av_qa (.goto 4) 144), (143, av_q (.iconst 0)), (144, av_q (.bastore)), (145, av_q (.iconst 0)), (146, av_q (.istore 4)), (148, av_q (.iload 4)), (150, av_q (.iconst 5)), (151, av_qa (.if_icmp .ge 31) 182), (154, av_q (.aload_n 0)), (155, av_qf (.getfield 94) 8 38 2), (158, av_q (.iconst 5)), (159, av_q (.iload_n 2)), (160, av_q (.imul)), (161, av_q (.iload 4)), (163, av_q (.iadd)), (164, av_q (.aload_n 0)), (165, av_qf (.getfield 46) 8 12 2), (168, av_q (.iconst 5)), (169, av_q (.iload_n 3)), (170, av_q (.imul)), (171, av_q (.iload 4)), (173, av_q (.iadd)), (174, av_q (.iaload)), (175, av_q (.iastore)), (176, av_q (.iinc 4 1)), (179, av_qa (.goto (-31)) 148), (182, av_q (.iconst 0)), (183, av_q (.istore 4)), (185, av_q (.iload 4)), (187, av_q (.iconst 3)), (188, av_qa (.if_icmp .ge 53) 241), (191, av_q (.aload_n 0)), (192, av_qf (.getfield 97) 8 39 2), (195, av_q (.iconst 3)), (196, av_q (.iload_n 2)), (197, av_q (.imul)), (198, av_q (.iload 4)), (200, av_q (.iadd)), (201, av_q (.aload_n 0)), (202, av_qf (.getfield 49) 8 13 2), (205, av_q (.iconst 3)), (206, av_q (.iload_n 3)), (207, av_q (.imul)), (208, av_q (.iload 4)), (210, av_q (.iadd)), (211, av_q (.iaload)), (212, av_q (.iastore)), (213, av_q (.aload_n 0)), (214, av_qf (.getfield 100) 8 40 2), (217, av_q (.iconst 3)), (218, av_q (.iload_n 2)), (219, av_q (.imul)), (220, av_q (.iload 4)), (222, av_q (.iadd)), (223, av_q (.aload_n 0)), (224, av_qf (.getfield 52) 8 14 2), (227, av_q (.iconst 3)), (228, av_q (.iload_n 3)), (229, av_q (.imul)), (230, av_q (.iload 4)), (232, av_q (.iadd)), (233, av_q (.iaload)), (234, av_q (.iastore)), (235, av_q (.iinc 4 1)), (238, av_qa (.goto (-53)) 185), (241, av_q (.iinc 2 1)), (244, av_qa (.goto (-232)) 12), (247, av_q (.return_))]
def cd_163 : List (Nat × av_E) := [(0, av_q (.aload_n 0)), (1, av_q (.iconst 0)), (2, av_qf (.putfield 354) 8 28 0), (5, av_q (.aload_n 0)), (6, av_q (.iconst 1)), (7, av_qf (.putfield 357) 8 29 0), (10, av_q (.iconst 0)), (11, av_q (.istore_n 1)), (12, av_q (.iload_n 1)), (13, av_q (.aload_n 0)), (14, av_qf (.getfield 351) 8 27 0), (17, av_qa (.if_icmp .ge 139) 156), (20, av_q (.iconst 0)), (21, av_q (.istore_n 2)), (22, av_q (.iload_n 2)), (23, av_q (.iconst 4)), (24, av_qa (.if_icmp .ge 126) 150), (27, av_q (.iload_n 2)), (28, av_q (.iconst 3)), (29, av_qa (.if_icmp .ge 29) 58), (32, av_q (.aload_n 0)), (33, av_qf (.getfield 100) 8 40 2), (36, av_q (.iconst 3)), (37, av_q (.iload_n 1)), (38, av_q (.imul)), (39, av_q (.iload_n 2)), (40, av_q (.iadd)), (41, av_q (.iaload)), (42, av_q (.aload_n 0)), (43, av_qf (.getfield 97) 8 39 2), (46, av_q (.iconst 3)), (47, av_q (.iload_n 1)), (48, av_q (.imul)), (49, av_q (.iload_n 2)), (50, av_q (.iadd)), (51, av_q (.iaload)), (52, av_q (.isub)), (53, av_q (.iconst 1)), (54, av_q (.iadd)), (55, av_qa (.goto 18) 73), (58, av_q (.aload_n 0)), (59, av_qf (.getfield 75) 8 32 2), (62, av_q (.iload_n 1)), (63, av_q (.iaload)), (64, av_q (.iconst 1)), (65, av_qa (.if_icmp .ne 7) 72), (68, av_q (.iconst 2)), (69, av_qa (.goto 4) 73), (72, av_q (.iconst 1)), (73, av_q (.istore_n 3)), (74, av_q (.iload_n 3)), (75, av_q (.iconst 2)), (76, av_qa (.if_icmp .ge 6) 82), (79, av_qa (.goto 65) 144), (82, av_q (.aload_n 0)), (83, av_qf (.getfield 103) 8 41 2), (86, av_q (.aload_n 0)), (87, av_qf (.getfield 354) 8 28 0), (90, av_q (.iconst 4)), (91, av_q (.iload_n 1)), (92, av_q (.imul)), (93, av_q (.iload_n 2)), (94, av_q (.iadd)), (95, av_q (.iastore)), (96, av_q (.aload_n 0)), (97, av_qf (.getfield 106) 8 42 2), (100, av_q (.aload_n 0)), (101, av_qf (.getfield 354) 8 28 0), (104, av_q (.iload_n 3)), (105, av_q (.iastore)), (106, av_q (.aload_n 0)), (107, av_q (.dup)), (108, av_qf (.getfield 354) 8 28 0), (111, av_q (.iconst 1)), (112, av_q (.iadd)), (113, av_qf (.putfield 354) 8 28 0), (116, av_q (.aload_n 0)), (117, av_q (.aload_n 0)), (118, av_qf (.getfield 357) 8 29 0), (121, av_q (.iload_n 3)), (122, av_q (.imul)), (123, av_q (.sipush 1024)), (126, av_qa (.if_icmp .le 9) 135), (129, av_q (.sipush 1025)), (132, av_qa (.goto 9) 141), (135, av_q (.aload_n 0)), (136, av_qf (.getfield 357) 8 29 0), (139, av_q (.iload_n 3)), (140, av_q (.imul)), (141, av_qf (.putfield 357) 8 29 0), (144, av_q (.iinc 2 1)), (147, av_qa (.goto (-125)) 22), (150, av_q (.iinc 1 1)), (153, av_qa (.goto (-141)) 12), (156, av_q (.return_))]
def cd_164 : List (Nat × av_E) := [(0, av_q (.aload_n 0)), (1, av_qf (.getfield 357) 8 29 0), (4, av_q (.sipush 1024)), (7, av_qa (.if_icmp .gt 7) 14), (10, av_q (.iconst 1)), (11, av_qa (.goto 4) 15), (14, av_q (.iconst 0)), (15, av_qa (.ireturn) 1)]
def cd_165 : List (Nat × av_E) := [(0, av_q (.iconst 0)), (1, av_q (.istore_n 2)), (2, av_q (.iload_n 2)), (3, av_q (.bipush 48)), (5, av_qa (.if_icmp .ge 16) 21), (8, av_q (.aload_n 0)), (9, av_qf (.getfield 118) 8 46 2), (12, av_q (.iload_n 2)), (13, av_q (.iconst 0)), (14, av_q (.iastore)), (15, av_q (.iinc 2 1)), (18, av_qa (.goto (-16)) 2), (21, av_q (.iload_n 1)), (22, av_q (.istore_n 2)), (23, av_q (.iconst 0)), (24, av_q (.istore_n 3)), (25, av_q (.iload_n 3)), (26, av_q (.aload_n 0)), (27, av_qf (.getfield 354) 8 28 0), (30, av_qa (.if_icmp .ge 37) 67), (33, av_q (.aload_n 0)), (34, av_qf (.getfield 118) 8 46 2), (37, av_q (.aload_n 0)), (38, av_qf (.getfield 103) 8 41 2), (41, av_q (.iload_n 3)), (42, av_q (.iaload)), (43, av_q (.iload_n 2)), (44, av_q (.aload_n 0)), (45, av_qf (.getfield 106) 8 42 2), (48, av_q (.iload_n 3)), (49, av_q (.iaload)), (50, av_q (.irem)), (51, av_q (.iastore)), (52, av_q (.iload_n 2)), (53, av_q (.aload_n 0)), (54, av_qf (.getfield 106) 8 42 2), (57, av_q (.iload_n 3)), (58, av_q (.iaload)), (59, av_q (.idiv)), (60, av_q (.istore_n 2)), (61, av_q (.iinc 3 1)), (64, av_qa (.goto (-39)) 25), (67, av_q (.iconst 0)), (68, av_q (.istore_n 3)), (69, av_q (.iload_n 3)), (70, av_q (.aload_n 0)), (71, av_qf (.getfield 351) 8 27 0), (74, av_qa (.if_icmp .ge 149) 223), (77, av_q (.aload_n 0)), (78, av_qf (.getfield 75) 8 32 2), (81, av_q (.iload_n 3)), (82, av_q (.iaload)), (83, av_q (.iconst 2)), (84, av_qa (.if_icmp .eq 17) 101), (87, av_q (.aload_n 0)), (88, av_qf (.getfield 118) 8 46 2), (91, av_q (.iconst 4)), (92, av_q (.iload_n 3)), (93, av_q (.imul)), (94, av_q (.iconst 3)), (95, av_q (.iadd)), (96, av_q (.iaload)), (97, av_q (.iconst 1)), (98, av_qa (.if_icmp .ne 7) 105), (101, av_q (.iconst 1)), (102, av_qa (.goto 4) 106), (105, av_q (.iconst 0)), (106, av_q (.istore 4)), (108, av_q (.aload_n 0)), (109, av_qf (.getfield 109) 8 43 2), (112, av_q (.iload_n 3)), (113, av_q (.aload_n 0)), (114, av_qf (.getfield 97) 8 39 2), (117, av_q (.iconst 3)), (118, av_q (.iload_n 3)), (119, av_q (.imul)), (120, av_q (.iaload)), (121, av_q (.aload_n 0)), (122, av_qf (.getfield 118) 8 46 2), (125, av_q (.iconst 4)), (126, av_q (.iload_n 3)), (127, av_q (.imul)), (128, av_q (.iaload)), (129, av_q (.iadd)), (130, av_q (.iastore)), (131, av_q (.aload_n 0)), (132, av_qf (.getfield 112) 8 44 2), (135, av_q (.iload_n 3)), (136, av_q (.iload 4)), (138, av_qa (.ifCond .eq 7) 145), (141, av_q (.iconst (-1))), (142, av_qa (.goto 31) 173), (145, av_q (.aload_n 0)), (146, av_qf (.getfield 109) 8 43 2), (149, av_q (.iload_n 3)), (150, av_q (.iaload)), (151, av_q (.aload_n 0)), (152, av_qf (.getfield 97) 8 39 2), (155, av_q (.iconst 3)), (156, av_q (.iload_n 3)), (157, av_q (.imul)), (158, av_q (.iconst 1)), (159, av_q (.iadd)), (160, av_q (.iaload)), (161, av_q (.iadd)), (162, av_q (.aload_n 0)), (163, av_qf (.getfield 118) 8 46 2), (166, av_q (.iconst 4)), (167, av_q (.iload_n 3)), (168, av_q (.imul)), (169, av_q (.iconst 1)), (170, av_q (.iadd)), (171, av_q (.iaload)), (172, av_q (.iadd)), (173, av_q (.iastore)), (174, av_q (.aload_n 0)), (175, av_qf (.getfield 115) 8 45 2), (178, av_q (.iload_n 3)), (179, av_q (.iload 4)), (181, av_qa (.ifCond .eq 7) 188), (184, av_q (.iconst (-1))), (185, av_qa (.goto 31) 216), (188, av_q (.aload_n 0)), (189, av_qf (.getfield 112) 8 44 2), (192, av_q (.iload_n 3)), (193, av_q (.iaload)), (194, av_q (.aload_n 0)), (195, av_qf (.getfield 97) 8 39 2), (198, av_q (.iconst 3)), (199, av_q (.iload_n 3)), (200, av_q (.imul)), (201, av_q (.iconst 2)), (202, av_q (.iadd)), (203, av_q (.iaload)), (204, av_q (.iadd)), (205, av_q (.aload_n 0)), (206, av_qf (.getfield 118) 8 46 2), (209, av_q (.iconst 4)), (210, av_q (.iload_n 3)), (211, av_q (.imul)), (212, av_q (.iconst 2)), (213, av_q (.iadd)), (214, av_q (.iaload)), (215, av_q (.iadd)), (216, av_q (.iastore)), (217, av_q (.iinc 3 1)), (220, av_qa (.goto (-151)) 69), (223, av_q (.return_))]
def cd_166 : List (Nat × av_E) := [(0, av_q (.iload_n 2)), (1, av_qa (.ifCond .ne 12) 13), (4, av_q (.aload_n 0)), (5, av_qf (.getfield 109) 8 43 2), (8, av_q (.iload_n 1)), (9, av_q (.iaload)), (10, av_qa (.goto 23) 33), (13, av_q (.iload_n 2)), (14, av_q (.iconst 1)), (15, av_qa (.if_icmp .ne 12) 27), (18, av_q (.aload_n 0)), (19, av_qf (.getfield 112) 8 44 2), (22, av_q (.iload_n 1)), (23, av_q (.iaload)), (24, av_qa (.goto 9) 33), (27, av_q (.aload_n 0)), (28, av_qf (.getfield 115) 8 45 2), (31, av_q (.iload_n 1)), (32, av_q (.iaload)), (33, av_q (.ireturn))]
def cd_167 : List (Nat × av_E) := [(0, av_q (.aload_n 0)), (1, av_qf (.getfield 69) 8 30 2), (4, av_q (.iload_n 1)), (5, av_q (.iaload)), (6, av_q (.iconst 3)), (7, av_qa (.if_icmp .ne 13) 20), (10, av_q (.aload_n 0)), (11, av_qf (.getfield 66) 8 26 2), (14, av_q (.bipush 9)), (16, av_q (.iaload)), (17, av_qa (.ifCond .ne 5) 22), (20, av_q (.iconst 0)), (21, av_qa (.ireturn) 1), (22, av_q (.iconst 5)), (23, av_q (.iload_n 1)), (24, av_q (.imul)), (25, av_q (.istore_n 2)), (26, av_q (.aload_n 0)), (27, av_qf (.getfield 94) 8 38 2), (30, av_q (.iload_n 2)), (31, av_q (.iaload)), (32, av_qa (.ifCond .ge 29) 61), (35, av_q (.aload_n 0)), (36, av_qf (.getfield 94) 8 38 2), (39, av_q (.iload_n 2)), (40, av_q (.iconst 1)), (41, av_q (.iadd)), (42, av_q (.iaload)), (43, av_qa (.ifCond .ge 18) 61), (46, av_q (.aload_n 0)), (47, av_qf (.getfield 94) 8 38 2), (50, av_q (.iload_n 2)), (51, av_q (.iconst 2)), (52, av_q (.iadd)), (53, av_q (.iaload)), (54, av_qa (.ifCond .ge 7) 61), (57, av_q (.iconst 1)), (58, av_qa (.goto 4) 62), (61, av_q (.iconst 0)), (62, av_qa (.ireturn) 1)]
def cd_168 : List (Nat × av_E) := [(0, av_q (.aload_n 0)), (1, av_qf (.getfield 69) 8 30 2), (4, av_q (.iload_n 1)), (5, av_q (.iaload)), (6, av_qa (.ifCond .eq 21) 27), (9, av_q (.aload_n 0)), (10, av_qf (.getfield 69) 8 30 2), (13, av_q (.iload_n 1)), (14, av_q (.iaload)), (15, av_q (.iconst 3)), (16, av_qa (.if_icmp .ne 15) 31), (19, av_q (.aload_n 0)), (20, av_q (.iload_n 1)), (21, av_qc (.invokevirtual 360) 167 1 0 8), (24, av_qa (.ifCond .ne 7) 31), (27, av_q (.iconst 1)), (28, av_qa (.goto 4) 32), (31, av_q (.iconst 0)), (32, av_qa (.ireturn) 1)]
def cd_169 : List (Nat × av_E) := [(0, av_q (.aload_n 0)), (1, av_qf (.getfield 69) 8 30 2), (4, av_q (.iload_n 1)), (5, av_q (.iaload)), (6, av_q (.iconst 4)), (7, av_qa (.if_icmp .eq 21) 28), (10, av_q (.aload_n 0)), (11, av_qf (.getfield 69) 8 30 2), (14, av_q (.iload_n 1)), (15, av_q (.iaload)), (16, av_q (.iconst 3)), (17, av_qa (.if_icmp .ne 15) 32), (20, av_q (.aload_n 0)), (21, av_q (.iload_n 1)), (22, av_qc (.invokevirtual 360) 167 1 0 8), (25, av_qa (.ifCond .ne 7) 32), (28, av_q (.iconst 1)), (29, av_qa (.goto 4) 33), (32, av_q (.iconst 0)), (33, av_qa (.ireturn) 1)]
def cd_170 : List (Nat × av_E) := [(0, av_q (.aload_n 0)), (1, av_qf (.getfield 69) 8 30 2), (4, av_q (.iload_n 1)), (5, av_q (.iaload)), (6, av_q (.iconst 2)), (7, av_qa (.if_icmp .eq 33) 40), (10, av_q (.aload_n 0)), (11, av_q (.iload_n 1)), (12, av_qc (.invokevirtual 360) 167 1 0 8), (15, av_qa (.ifCond .ne 25) 40), (18, av_q (.aload_n 0)), (19, av_qf (.getfield 69) 8 30 2), (22, av_q (.iload_n 1)), (23, av_q (.iaload)), (24, av_q (.bipush 6)), (26, av_qa (.if_icmp .ne 18) 44), (29, av_q (.aload_n 0)), (30, av_qf (.getfield 66) 8 26 2), (33, av_q (.bipush 11)), (35, av_q (.iaload)), (36, av_q (.iconst 1)), (37, av_qa (.if_icmp .ne 7) 44), (40, av_q (.iconst 1)), (41, av_qa (.goto 4) 45), (44, av_q (.iconst 0)), (45, av_qa (.ireturn) 1)]
def cd_171 : List (Nat × av_E) := [(0, av_q (.aload_n 0)), (1, av_qf (.getfield 69) 8 30 2), (4, av_q (.iload_n 1)), (5, av_q (.iaload)), (6, av_q (.iconst 5)), (7, av_qa (.if_icmp .ne 13) 20), (10, av_q (.aload_n 0)), (11, av_qf (.getfield 81) 8 34 2), (14, av_q (.iload_n 1)), (15, av_q (.iaload)), (16, av_q (.iload_n 2)), (17, av_qa (.if_icmp .eq 5) 22), (20, av_q (.iconst (-1))), (21, av_q (.ireturn)), (22, av_q (.aload_n 0)), (23, av_q (.iload_n 1)), (24, av_q (.aload_n 0)), (25, av_qf (.getfield 66) 8 26 2), (28, av_q (.iconst 4)), (29, av_q (.iaload)), (30, av_qc (.invokevirtual 363) 166 2 0 8), (33, av_q (.istore_n 3)), (34, av_q (.aload_n 0)), (35, av_qf (.getfield 78) 8 33 2), (38, av_q (.iload_n 2)), (39, av_q (.iaload)), (40, av_qa (.ifCond .lt 28) 68), (43, av_q (.aload_n 0)), (44, av_qf (.getfield 66) 8 26 2), (47, av_q (.bipush 6)), (49, av_q (.iaload)), (50, av_q (.iconst 1)), (51, av_qa (.if_icmp .ne 17) 68), (54, av_q (.iload_n 3)), (55, av_q (.aload_n 0)), (56, av_qf (.getfield 78) 8 33 2), (59, av_q (.iload_n 2)), (60, av_q (.iaload)), (61, av_qa (.if_icmp .gt 7) 68), (64, av_q (.iconst (-1))), (65, av_qa (.goto 4) 69), (68, av_q (.iload_n 3)), (69, av_q (.ireturn))]
def cd_172 : List (Nat × av_E) := [(0, av_q (.aload_n 0)), (1, av_q (.iload_n 1)), (2, av_qc (.invokevirtual 366) 169 1 0 8), (5, av_qa (.ifCond .eq 27) 32), (8, av_q (.aload_n 0)), (9, av_qf (.getfield 81) 8 34 2), (12, av_q (.iload_n 1)), (13, av_q (.iaload)), (14, av_q (.iload_n 2)), (15, av_qa (.if_icmp .ne 17) 32), (18, av_q (.aload_n 0)), (19, av_q (.iload_n 1)), (20, av_q (.aload_n 0)), (21, av_qf (.getfield 66) 8 26 2), (24, av_q (.iconst 5)), (25, av_q (.iaload)), (26, av_qc (.invokevirtual 363) 166 2 0 8), (29, av_qa (.goto 4) 33), (32, av_q (.iconst (-1))), (33, av_q (.ireturn))]
def cd_173 : List (Nat × av_E) := [(0, av_q (.iload_n 2)), (1, av_qa (.ifCond .lt 42) 43), (4, av_q (.iload_n 2)), (5, av_q (.aload_n 0)), (6, av_qf (.getfield 124) 8 48 2), (9, av_q (.iload_n 1)), (10, av_q (.iaload)), (11, av_qa (.if_icmp .gt 32) 43), (14, av_q (.iload_n 2)), (15, av_q (.aload_n 0)), (16, av_qf (.getfield 124) 8 48 2), (19, av_q (.iload_n 1)), (20, av_q (.iaload)), (21, av_qa (.if_icmp .ne 23) 44), (24, av_q (.aload_n 0)), (25, av_qf (.getfield 127) 8 49 2), (28, av_q (.iload_n 1)), (29, av_q (.iaload)), (30, av_qa (.ifCond .le 14) 44), (33, av_q (.aload_n 0)), (34, av_qf (.getfield 127) 8 49 2), (37, av_q (.iload_n 1)), (38, av_q (.iaload)), (39, av_q (.iload_n 3)), (40, av_qa (.if_icmp .gt 4) 44), (43, av_q (.return_)), (44, av_q (.aload_n 0)), (45, av_qf (.getfield 124) 8 48 2), (48, av_q (.iload_n 1)), (49, av_q (.iload_n 2)), (50, av_q (.iastore)), (51, av_q (.aload_n 0)), (52, av_qf (.getfield 127) 8 49 2), (55, av_q (.iload_n 1)), (56, av_q (.iload_n 3)), (57, av_q (.iastore)), (58, av_q (.return_))]
def cd_174 : List (Nat × av_E) := [(0, av_q (.iconst 0)), (1, av_q (.istore_n 1)), (2, av_q (.iload_n 1)), (3, av_q (.aload_n 0)), (4, av_qf (.getfield 351) 8 27 0), (7, av_qa (.if_icmp .ge 175) 182), (10, av_q (.aload_n 0)), (11, av_q (.iload_n 1)), (12, av_qc (.invokevirtual 369) 168 1 0 8), (15, av_qa (.ifCond .ne 6) 21), (18, av_qa (.goto 158) 176), (21, av_q (.aload_n 0)), (22, av_qf (.getfield 121) 8 47 2), (25, av_q (.iload_n 1)), (26, av_q (.aload_n 0)), (27, av_qf (.getfield 90) 8 37 2), (30, av_q (.iload_n 1)), (31, av_q (.baload)), (32, av_qa (.ifCond .eq 7) 39), (35, av_q (.iconst (-1))), (36, av_qa (.goto 14) 50), (39, av_q (.aload_n 0)), (40, av_q (.iload_n 1)), (41, av_q (.aload_n 0)), (42, av_qf (.getfield 66) 8 26 2), (45, av_q (.iconst 3)), (46, av_q (.iaload)), (47, av_qc (.invokevirtual 363) 166 2 0 8), (50, av_q (.iastore)), (51, av_q (.aload_n 0)), (52, av_qf (.getfield 124) 8 48 2), (55, av_q (.iload_n 1)), (56, av_q (.sipush 9999)), (59, av_q (.iastore)), (60, av_q (.aload_n 0)), (61, av_qf (.getfield 127) 8 49 2), (64, av_q (.iload_n 1)), (65, av_q (.iconst 0)), (66, av_q (.iastore)), (67, av_q (.iload_n 1)), (68, av_q (.iconst 1)), (69, av_q (.iadd)), (70, av_q (.istore_n 2)), (71, av_q (.iload_n 2)), (72, av_q (.aload_n 0)), (73, av_qf (.getfield 351) 8 27 0), (76, av_qa (.if_icmp .ge 33) 109), (79, av_q (.aload_n 0)), (80, av_q (.iload_n 1)), (81, av_q (.aload_n 0)), (82, av_q (.iload_n 2)), (83, av_q (.iload_n 1)), (84, av_qc (.invokevirtual 372) 171 2 0 8), (87, av_q (.iconst 1)), (88, av_qc (.invokevirtual 375) 173 3 0 8), (91, av_q (.aload_n 0)), (92, av_q (.iload_n 1)), (93, av_q (.aload_n 0)), (94, av_q (.iload_n 2)), (95, av_q (.iload_n 1)), (96, av_qc (.invokevirtual 378) 172 2 0 8), (99, av_q (.iconst 2)), (100, av_qc (.invokevirtual 375) 173 3 0 8), (103, av_q (.iinc 2 1)), (106, av_qa (.goto (-35)) 71), (109, av_q (.aload_n 0)), (110, av_qf (.getfield 78) 8 33 2), (113, av_q (.iload_n 1)), (114, av_q (.iaload)), (115, av_qa (.ifCond .lt 20) 135), (118, av_q (.aload_n 0)), (119, av_q (.iload_n 1)), (120, av_q (.aload_n 0)), (121, av_qf (.getfield 78) 8 33 2), (124, av_q (.iload_n 1)), (125, av_q (.iaload)), (126, av_q (.iconst 1)), (127, av_q (.iadd)), (128, av_q (.iconst 3)), (129, av_qc (.invokevirtual 375) 173 3 0 8), (132, av_qa (.goto 44) 176), (135, av_q (.aload_n 0)), (136, av_qf (.getfield 66) 8 26 2), (139, av_q (.bipush 7)), (141, av_q (.iaload)), (142, av_qa (.ifCond .lt 34) 176), (145, av_q (.aload_n 0)), (146, av_qf (.getfield 112) 8 44 2), (149, av_q (.iload_n 1)), (150, av_q (.iaload)), (151, av_qa (.ifCond .lt 25) 176), (154, av_q (.aload_n 0)), (155, av_q (.iload_n 1)), (156, av_q (.aload_n 0)), (157, av_qf (.getfield 112) 8 44 2), (160, av_q (.iload_n 1)), (161, av_q (.iaload)), (162, av_q (.aload_n 0)), (163, av_qf (.getfield 66) 8 26 2), (166, av_q (.bipush 7)), (168, av_q (.iaload)), (169, av_q (.iadd)), (170, av_q (.iconst 1)), (171, av_q (.iadd)), (172, av_q (.iconst 4)), (173, av_qc (.invokevirtual 375) 173 3 0 8), (176, av_q (.iinc 1 1)), (179, av_qa (.goto (-177)) 2), (182, av_q (.return_))]
def cd_175 : List (Nat × av_E) := [(0, av_q (.aload_n 0)), (1, av_qf (.getfield 121) 8 47 2), (4, av_q (.iload_n 1)), (5, av_q (.iaload)), (6, av_qa (.ifCond .lt 27) 33), (9, av_q (.iload_n 2)), (10, av_q (.aload_n 0)), (11, av_qf (.getfield 121) 8 47 2), (14, av_q (.iload_n 1)), (15, av_q (.iaload)), (16, av_qa (.if_icmp .lt 17) 33), (19, av_q (.iload_n 2)), (20, av_q (.aload_n 0)), (21, av_qf (.getfield 124) 8 48 2), (24, av_q (.iload_n 1)), (25, av_q (.iaload)), (26, av_qa (.if_icmp .ge 7) 33), (29, av_q (.iconst 1)), (30, av_qa (.goto 4) 34), (33, av_q (.iconst 0)), (34, av_qa (.ireturn) 1)]
def cd_176 : List (Nat × av_E) := [(0, av_q (.aload_n 0)), (1, av_qf (.getfield 69) 8 30 2), (4, av_q (.iload_n 1)), (5, av_q (.iaload)), (6, av_q (.bipush 6)), (8, av_qa (.if_icmp .ne 12) 20), (11, av_q (.aload_n 0)), (12, av_qf (.getfield 109) 8 43 2), (15, av_q (.iload_n 1)), (16, av_q (.iaload)), (17, av_qa (.goto 33) 50), (20, av_q (.aload_n 0)), (21, av_q (.iload_n 1)), (22, av_q (.aload_n 0)), (23, av_qf (.getfield 66) 8 26 2), (26, av_q (.aload_n 0)), (27, av_qf (.getfield 72) 8 31 2), (30, av_q (.iload_n 1)), (31, av_q (.iaload)), (32, av_q (.iconst 2)), (33, av_qa (.if_icmp .le 7) 40), (36, av_q (.iconst 2)), (37, av_qa (.goto 9) 46), (40, av_q (.aload_n 0)), (41, av_qf (.getfield 72) 8 31 2), (44, av_q (.iload_n 1)), (45, av_q (.iaload)), (46, av_q (.iaload)), (47, av_qc (.invokevirtual 363) 166 2 0 8), (50, av_q (.ireturn))]
def cd_177 : List (Nat × av_E) := [(0, av_q (.iload_n 1)), (1, av_q (.iconst 1)), (2, av_q (.iadd)), (3, av_q (.istore_n 3)), (4, av_q (.iload_n 3)), (5, av_q (.aload_n 0)), (6, av_qf (.getfield 351) 8 27 0), (9, av_qa (.if_icmp .ge 59) 68), (12, av_q (.aload_n 0)), (13, av_qf (.getfield 69) 8 30 2), (16, av_q (.iload_n 3)), (17, av_q (.iaload)), (18, av_q (.iconst 5)), (19, av_qa (.if_icmp .ne 27) 46), (22, av_q (.aload_n 0)), (23, av_qf (.getfield 81) 8 34 2), (26, av_q (.iload_n 3)), (27, av_q (.iaload)), (28, av_q (.iload_n 1)), (29, av_qa (.if_icmp .ne 17) 46), (32, av_q (.aload_n 0)), (33, av_q (.iload_n 3)), (34, av_q (.aload_n 0)), (35, av_qf (.getfield 66) 8 26 2), (38, av_q (.iconst 4)), (39, av_q (.iaload)), (40, av_qc (.invokevirtual 363) 166 2 0 8), (43, av_qa (.goto 4) 47), (46, av_q (.iconst (-1))), (47, av_q (.istore 4)), (49, av_q (.iload 4)), (51, av_qa (.ifCond .lt 11) 62), (54, av_q (.iload 4)), (56, av_q (.iload_n 2)), (57, av_qa (.if_icmp .ge 5) 62), (60, av_q (.iconst 1)), (61, av_qa (.ireturn) 1), (62, av_q (.iinc 3 1)), (65, av_qa (.goto (-61)) 4), (68, av_q (.iconst 0)), (69, av_qa (.ireturn) 1)]
def cd_178 : List (Nat × av_E) := [(0, av_q (.aload_n 0)), (1, av_qf (.getfield 381) 8 50 3), (4, av_qa (.ifCond .eq 12) 16), (7, av_q (.iload_n 3)), (8, av_q (.aload_n 0)), (9, av_qf (.getfield 384) 8 53 0), (12, av_qa (.if_icmp .lt 4) 16), (15, av_q (.return_)), (16, av_q (.aload_n 0)), (17, av_q (.iconst 1)), (18, av_qf (.putfield 381) 8 50 3), (21, av_q (.aload_n 0)), (22, av_q (.iload_n 1)), (23, av_qf (.putfield 387) 8 51 0), (26, av_q (.aload_n 0)), (27, av_q (.iload_n 2)), (28, av_qf (.putfield 390) 8 52 0), (31, av_q (.aload_n 0)), (32, av_q (.iload_n 3)), (33, av_qf (.putfield 384) 8 53 0), (36, av_q (.return_))]
def cd_179 : List (Nat × av_E) := [(0, av_q (.iload_n 1)), (1, av_q (.iconst 1)), (2, av_q (.iadd)), (3, av_q (.istore_n 3)), (4, av_q (.iload_n 3)), (5, av_q (.aload_n 0)), (6, av_qf (.getfield 351) 8 27 0), (9, av_qa (.if_icmp .ge 84) 93), (12, av_q (.aload_n 0)), (13, av_qf (.getfield 69) 8 30 2), (16, av_q (.iload_n 3)), (17, av_q (.iaload)), (18, av_q (.iconst 2)), (19, av_qa (.if_icmp .eq 34) 53), (22, av_q (.aload_n 0)), (23, av_qf (.getfield 69) 8 30 2), (26, av_q (.iload_n 3)), (27, av_q (.iaload)), (28, av_q (.iconst 3)), (29, av_qa (.if_icmp .eq 24) 53), (32, av_q (.aload_n 0)), (33, av_qf (.getfield 69) 8 30 2), (36, av_q (.iload_n 3)), (37, av_q (.iaload)), (38, av_q (.iconst 4)), (39, av_qa (.if_icmp .eq 14) 53), (42, av_q (.aload_n 0)), (43, av_qf (.getfield 69) 8 30 2), (46, av_q (.iload_n 3)), (47, av_q (.iaload)), (48, av_q (.bipush 6)), (50, av_qa (.if_icmp .ne 7) 57), (53, av_q (.iconst 1)), (54, av_qa (.goto 4) 58), (57, av_q (.iconst 0)), (58, av_q (.istore 4)), (60, av_q (.iload 4)), (62, av_qa (.ifCond .eq 25) 87), (65, av_q (.aload_n 0)), (66, av_qf (.getfield 81) 8 34 2), (69, av_q (.iload_n 3)), (70, av_q (.iaload)), (71, av_q (.iload_n 1)), (72, av_qa (.if_icmp .ne 15) 87), (75, av_q (.aload_n 0)), (76, av_qf (.getfield 109) 8 43 2), (79, av_q (.iload_n 3)), (80, av_q (.iaload)), (81, av_q (.iload_n 2)), (82, av_qa (.if_icmp .gt 5) 87), (85, av_q (.iconst 1)), (86, av_qa (.ireturn) 1), (87, av_q (.iinc 3 1)), (90, av_qa (.goto (-86)) 4), (93, av_q (.iconst 0)), (94, av_qa (.ireturn) 1)]
def cd_180 : List (Nat × av_E) := [(0, av_q (.aload_n 0)), (1, av_q (.iconst 0)), (2, av_qf (.putfield 381) 8 50 3), (5, av_q (.iconst 0)), (6, av_q (.istore_n 1)), (7, av_q (.iload_n 1)), (8, av_q (.aload_n 0)), (9, av_qf (.getfield 351) 8 27 0), (12, av_qa (.if_icmp .ge 94) 106), (15, av_q (.aload_n 0)), (16, av_qf (.getfield 81) 8 34 2), (19, av_q (.iload_n 1)), (20, av_q (.iaload)), (21, av_q (.istore_n 2)), (22, av_q (.aload_n 0)), (23, av_q (.iload_n 1)), (24, av_qc (.invokevirtual 393) 170 1 0 8), (27, av_qa (.ifCond .eq 73) 100), (30, av_q (.aload_n 0)), (31, av_q (.iload_n 2)), (32, av_qc (.invokevirtual 369) 168 1 0 8), (35, av_qa (.ifCond .ne 6) 41), (38, av_qa (.goto 62) 100), (41, av_q (.aload_n 0)), (42, av_q (.iload_n 1)), (43, av_qc (.invokevirtual 396) 176 1 0 8), (46, av_q (.istore_n 3)), (47, av_q (.iload_n 3)), (48, av_qa (.ifCond .lt 52) 100), (51, av_q (.aload_n 0)), (52, av_qf (.getfield 112) 8 44 2), (55, av_q (.iload_n 2)), (56, av_q (.iaload)), (57, av_qa (.ifCond .lt 43) 100), (60, av_q (.aload_n 0)), (61, av_qf (.getfield 112) 8 44 2), (64, av_q (.iload_n 2)), (65, av_q (.iaload)), (66, av_q (.aload_n 0)), (67, av_qf (.getfield 109) 8 43 2), (70, av_q (.iload_n 1)), (71, av_q (.iaload)), (72, av_qa (.if_icmp .gt 28) 100), (75, av_q (.aload_n 0)), (76, av_q (.iload_n 1)), (77, av_q (.iload_n 3)), (78, av_qc (.invokevirtual 399) 177 2 0 8), (81, av_qa (.ifCond .ne 19) 100), (84, av_q (.aload_n 0)), (85, av_q (.iload_n 2)), (86, av_q (.iload_n 3)), (87, av_qc (.invokevirtual 403) 175 2 0 8), (90, av_qa (.ifCond .eq 10) 100), (93, av_q (.aload_n 0)), (94, av_q (.iload_n 1)), (95, av_q (.iload_n 2)), (96, av_q (.iload_n 3)), (97, av_qc (.invokevirtual 406) 178 3 0 8), (100, av_q (.iinc 1 1)), (103, av_qa (.goto (-96)) 7), (106, av_q (.aload_n 0)), (107, av_qf (.getfield 66) 8 26 2), (110, av_q (.bipush 8)), (112, av_q (.iaload)), (113, av_qa (.ifCond .ge 4) 117), (116, av_q (.return_)), (117, av_q (.iconst 0)), (118, av_q (.istore_n 1)), (119, av_q (.iload_n 1)), (120, av_q (.aload_n 0)), (121, av_qf (.getfield 351) 8 27 0), (124, av_qa (.if_icmp .ge 69) 193), (127, av_q (.aload_n 0)), (128, av_q (.iload_n 1)), (129, av_qc (.invokevirtual 369) 168 1 0 8), (132, av_qa (.ifCond .eq 55) 187), (135, av_q (.aload_n 0)), (136, av_qf (.getfield 115) 8 45 2), (139, av_q (.iload_n 1)), (140, av_q (.iaload)), (141, av_qa (.ifCond .ge 6) 147), (144, av_qa (.goto 43) 187), (147, av_q (.aload_n 0)), (148, av_qf (.getfield 115) 8 45 2), (151, av_q (.iload_n 1)), (152, av_q (.iaload)), (153, av_q (.aload_n 0)), (154, av_qf (.getfield 66) 8 26 2), (157, av_q (.bipush 8)), (159, av_q (.iaload)), (160, av_q (.iadd)), (161, av_q (.istore_n 2)), (162, av_q (.aload_n 0)), (163, av_q (.iload_n 1)), (164, av_q (.iload_n 2)), (165, av_qc (.invokevirtual 403) 175 2 0 8), (168, av_qa (.ifCond .eq 19) 187), (171, av_q (.aload_n 0)), (172, av_q (.iload_n 1)), (173, av_q (.iload_n 2)), (174, av_qc (.invokevirtual 409) 179 2 0 8), (177, av_qa (.ifCond .ne 10) 187), (180, av_q (.aload_n 0)), (181, av_q (.iconst (-1))), (182, av_q (.iload_n 1)), (183, av_q (.iload_n 2)), (184, av_qc (.invokevirtual 406) 178 3 0 8), (187, av_q (.iinc 1 1)), (190, av_qa (.goto (-71)) 119), (193, av_q (.return_))]
def cd_181 : List (Nat × av_E) := [(0, av_q (.aload_n 0)), (1, av_q (.iload_n 1)), (2, av_qc (.invokevirtual 412) 165 1 0 8), (5, av_q (.aload_n 0)), (6, av_qc (.invokevirtual 415) 174 0 0 8), (9, av_q (.aload_n 0)), (10, av_qc (.invokevirtual 418) 180 0 0 8), (13, av_q (.return_))]
def cd_182 : List (Nat × av_E) := [(0, av_q (.iload_n 1)), (1, av_q (.istore_n 3)), (2, av_q (.aload_n 0)), (3, av_qf (.getfield 94) 8 38 2), (6, av_q (.iconst 5)), (7, av_q (.iload_n 3)), (8, av_q (.imul)), (9, av_q (.iload_n 2)), (10, av_q (.iadd)), (11, av_q (.iaload)), (12, av_qa (.ifCond .ge 23) 35), (15, av_q (.aload_n 0)), (16, av_qf (.getfield 69) 8 30 2), (19, av_q (.iload_n 3)), (20, av_q (.iaload)), (21, av_q (.iconst 3)), (22, av_qa (.if_icmp .ne 13) 35), (25, av_q (.aload_n 0)), (26, av_qf (.getfield 81) 8 34 2), (29, av_q (.iload_n 3)), (30, av_q (.iaload)), (31, av_q (.istore_n 3)), (32, av_qa (.goto (-30)) 2), (35, av_q (.aload_n 0)), (36, av_qf (.getfield 94) 8 38 2), (39, av_q (.iconst 5)), (40, av_q (.iload_n 3)), (41, av_q (.imul)), (42, av_q (.iload_n 2)), (43, av_q (.iadd)), (44, av_q (.iaload)), (45, av_q (.ireturn))]
def cd_183 : List (Nat × av_E) := [(0, av_q (.aload_n 0)), (1, av_q (.aload_n 0)), (2, av_qf (.getfield 390) 8 52 0), (5, av_q (.iload_n 1)), (6, av_qc (.invokevirtual 421) 182 2 0 8), (9, av_q (.istore_n 2)), (10, av_q (.aload_n 0)), (11, av_qf (.getfield 387) 8 51 0), (14, av_qa (.ifCond .lt 40) 54), (17, av_q (.aload_n 0)), (18, av_q (.aload_n 0)), (19, av_qf (.getfield 387) 8 51 0), (22, av_qc (.invokevirtual 360) 167 1 0 8), (25, av_qa (.ifCond .eq 29) 54), (28, av_q (.aload_n 0)), (29, av_qf (.getfield 94) 8 38 2), (32, av_q (.iconst 5)), (33, av_q (.aload_n 0)), (34, av_qf (.getfield 387) 8 51 0), (37, av_q (.imul)), (38, av_q (.iload_n 1)), (39, av_q (.iadd)), (40, av_q (.iaload)), (41, av_qa (.ifCond .lt 13) 54), (44, av_q (.aload_n 0)), (45, av_qf (.getfield 66) 8 26 2), (48, av_q (.bipush 10)), (50, av_q (.iaload)), (51, av_qa (.ifCond .ne 5) 56), (54, av_q (.iload_n 2)), (55, av_q (.ireturn)), (56, av_q (.aload_n 0)), (57, av_qf (.getfield 66) 8 26 2), (60, av_q (.bipush 10)), (62, av_q (.iaload)), (63, av_q (.iconst 1)), (64, av_qa (.if_icmp .ne 19) 83), (67, av_q (.aload_n 0)), (68, av_qf (.getfield 94) 8 38 2), (71, av_q (.iconst 5)), (72, av_q (.aload_n 0)), (73, av_qf (.getfield 387) 8 51 0), (76, av_q (.imul)), (77, av_q (.iload_n 1)), (78, av_q (.iadd)), (79, av_q (.iaload)), (80, av_qa (.goto 4) 84), (83, av_q (.iconst (-1))), (84, av_q (.ireturn))]
def cd_184 : List (Nat × av_E) := [(0, av_q (.aload_n 0)), (1, av_qc (.invokevirtual 424) 163 0 0 8), (4, av_q (.aload_n 0)), (5, av_qc (.invokevirtual 427) 164 0 0 8), (8, av_qa (.ifCond .ne 5) 13), (11, av_q (.iconst 0)), (12, av_qa (.ireturn) 1), (13, av_q (.iconst 0)), (14, av_q (.istore_n 1)), (15, av_q (.iload_n 1)), (16, av_q (.aload_n 0)), (17, av_qf (.getfield 357) 8 29 0), (20, av_qa (.if_icmp .ge 23) 43), (23, av_q (.aload_n 0)), (24, av_q (.iload_n 1)), (25, av_qc (.invokevirtual 431) 181 1 0 8), (28, av_q (.aload_n 0)), (29, av_qf (.getfield 381) 8 50 3), (32, av_qa (.ifCond .ne 5) 37), (35, av_q (.iconst 0)), (36, av_qa (.ireturn) 1), (37, av_q (.iinc 1 1)), (40, av_qa (.goto (-25)) 15), (43, av_q (.iconst 1)), (44, av_qa (.ireturn) 1)]
def cd_185 : List (Nat × av_E) := [(0, av_q (.iconst 0)), (1, av_q (.istore_n 2)), (2, av_q (.iload_n 2)), (3, av_q (.bipush 16)), (5, av_qa (.if_icmp .ge 25) 30), (8, av_q (.aload_n 0)), (9, av_qf (.getfield 133) 8 55 2), (12, av_q (.iload_n 2)), (13, av_q (.iload_n 2)), (14, av_q (.iload_n 1)), (15, av_qa (.if_icmp .ne 7) 22), (18, av_q (.iconst 1)), (19, av_qa (.goto 4) 23), (22, av_q (.iconst 0)), (23, av_q (.bastore)), (24, av_q (.iinc 2 1)), (27, av_qa (.goto (-25)) 2), (30, av_q (.iload_n 1)), (31, av_q (.istore_n 2)), (32, av_q (.iload_n 2)), (33, av_qa (.ifCond .lt 67) 100), (36, av_q (.iconst 0)), (37, av_q (.istore_n 3)), (38, av_q (.iload_n 3)), (39, av_q (.aload_n 0)), (40, av_qf (.getfield 19) 8 3 2), (43, av_q (.iload_n 2)), (44, av_q (.iaload)), (45, av_qa (.if_icmp .ge 49) 94), (48, av_q (.aload_n 0)), (49, av_qf (.getfield 133) 8 55 2), (52, av_q (.iload_n 2)), (53, av_q (.baload)), (54, av_qa (.ifCond .eq 40) 94), (57, av_q (.aload_n 0)), (58, av_qf (.getfield 40) 8 10 2), (61, av_q (.bipush 12)), (63, av_q (.iload_n 2)), (64, av_q (.imul)), (65, av_q (.iload_n 3)), (66, av_q (.iadd)), (67, av_q (.iaload)), (68, av_qa (.ifCond .lt 20) 88), (71, av_q (.aload_n 0)), (72, av_qf (.getfield 133) 8 55 2), (75, av_q (.aload_n 0)), (76, av_qf (.getfield 40) 8 10 2), (79, av_q (.bipush 12)), (81, av_q (.iload_n 2)), (82, av_q (.imul)), (83, av_q (.iload_n 3)), (84, av_q (.iadd)), (85, av_q (.iaload)), (86, av_q (.iconst 1)), (87, av_q (.bastore)), (88, av_q (.iinc 3 1)), (91, av_qa (.goto (-53)) 38), (94, av_q (.iinc 2 (-1))), (97, av_qa (.goto (-65)) 32), (100, av_q (.iconst 0)), (101, av_q (.istore_n 2)), (102, av_q (.iload_n 2)), (103, av_q (.iload_n 1)), (104, av_qa (.if_icmp .ge 36) 140), (107, av_q (.aload_n 0)), (108, av_qf (.getfield 133) 8 55 2), (111, av_q (.iload_n 2)), (112, av_q (.baload)), (113, av_qa (.ifCond .ne 6) 119), (116, av_qa (.goto 18) 134), (119, av_q (.aload_n 0)), (120, av_q (.iload_n 2)), (121, av_qc (.invokevirtual 434) 162 1 0 8), (124, av_q (.aload_n 0)), (125, av_qf (.getfield 130) 8 54 2), (128, av_q (.iload_n 2)), (129, av_q (.aload_n 0)), (130, av_qc (.invokevirtual 437) 184 0 0 8), (133, av_q (.bastore)), (134, av_q (.iinc 2 1)), (137, av_qa (.goto (-35)) 102), (140, av_q (.aload_n 0)), (141, av_q (.iload_n 1)), (142, av_qc (.invokevirtual 434) 162 1 0 8), (145, av_q (.aload_n 0)), (146, av_qc (.invokevirtual 424) 163 0 0 8), (149, av_q (.return_))]
def cd_186 : List (Nat × av_E) := [(0, av_q (.aload_n 0)), (1, av_q (.iload_n 1)), (2, av_qc (.invokevirtual 299) 149 1 0 8), (5, av_qa (.ifCond .eq 15) 20), (8, av_q (.aload_n 0)), (9, av_q (.iload_n 2)), (10, av_qc (.invokevirtual 345) 150 1 0 8), (13, av_qa (.ifCond .eq 7) 20), (16, av_q (.iload_n 3)), (17, av_qa (.ifCond .ge 5) 22), (20, av_q (.iconst 0)), (21, av_qa (.ireturn) 1), (22, av_q (.aload_n 0)), (23, av_q (.iload_n 2)), (24, av_q (.iconst 0)), (25, av_qc (.invokevirtual 348) 159 2 0 8), (28, av_q (.aload_n 0)), (29, av_q (.iload_n 1)), (30, av_qc (.invokevirtual 440) 185 1 0 8), (33, av_q (.aload_n 0)), (34, av_qc (.invokevirtual 427) 164 0 0 8), (37, av_qa (.ifCond .eq 11) 48), (40, av_q (.iload_n 3)), (41, av_q (.aload_n 0)), (42, av_qf (.getfield 357) 8 29 0), (45, av_qa (.if_icmp .lt 5) 50), (48, av_q (.iconst 0)), (49, av_qa (.ireturn) 1), (50, av_q (.aload_n 0)), (51, av_q (.iload_n 3)), (52, av_qc (.invokevirtual 431) 181 1 0 8), (55, av_q (.iconst 1)), (56, av_qa (.ireturn) 1)]
def cd_187 : List (Nat × av_E) := [(0, av_q (.aload_n 0)), (1, av_q (.iload_n 1)), (2, av_qc (.invokevirtual 299) 149 1 0 8), (5, av_qa (.ifCond .eq 12) 17), (8, av_q (.iload_n 2)), (9, av_q (.iconst 0)), (10, av_q (.iconst 2)), (11, av_qc (.invokestatic 176) 127 3 2 8), (14, av_qa (.ifCond .ne 6) 20), (17, av_q (.bipush (-2))), (19, av_q (.ireturn)), (20, av_q (.aload_n 0)), (21, av_q (.iload_n 1)), (22, av_qc (.invokevirtual 443) 188 1 0 8), (25, av_q (.iload_n 2)), (26, av_qa (.ifCond .ne 10) 36), (29, av_q (.aload_n 0)), (30, av_qf (.getfield 351) 8 27 0), (33, av_qa (.goto 30) 63), (36, av_q (.iload_n 2)), (37, av_q (.iconst 1)), (38, av_qa (.if_icmp .ne 10) 48), (41, av_q (.aload_n 0)), (42, av_qf (.getfield 354) 8 28 0), (45, av_qa (.goto 18) 63), (48, av_q (.aload_n 0)), (49, av_qc (.invokevirtual 427) 164 0 0 8), (52, av_qa (.ifCond .eq 10) 62), (55, av_q (.aload_n 0)), (56, av_qf (.getfield 357) 8 29 0), (59, av_qa (.goto 4) 63), (62, av_q (.iconst (-1))), (63, av_q (.ireturn))]
def cd_188 : List (Nat × av_E) := [(0, av_q (.iconst 0)), (1, av_q (.istore_n 2)), (2, av_q (.iload_n 2)), (3, av_q (.bipush 16)), (5, av_qa (.if_icmp .ge 16) 21), (8, av_q (.aload_n 0)), (9, av_qf (.getfield 130) 8 54 2), (12, av_q (.iload_n 2)), (13, av_q (.iconst 0)), (14, av_q (.bastore)), (15, av_q (.iinc 2 1)), (18, av_qa (.goto (-16)) 2), (21, av_q (.aload_n 0)), (22, av_q (.iload_n 1)), (23, av_qc (.invokevirtual 434) 162 1 0 8), (26, av_q (.aload_n 0)), (27, av_qc (.invokevirtual 424) 163 0 0 8), (30, av_q (.return_))]
def cd_189 : List (Nat × av_E) := [(0, av_q (.aload_n 0)), (1, av_q (.iload_n 1)), (2, av_qc (.invokevirtual 299) 149 1 0 8), (5, av_qa (.ifCond .eq 17) 22), (8, av_q (.iload_n 2)), (9, av_qa (.ifCond .lt 13) 22), (12, av_q (.iload 4)), (14, av_q (.iconst 0)), (15, av_q (.iconst 2)), (16, av_qc (.invokestatic 176) 127 3 2 8), (19, av_qa (.ifCond .ne 6) 25), (22, av_q (.bipush (-2))), (24, av_q (.ireturn)), (25, av_q (.aload_n 0)), (26, av_q (.iload_n 1)), (27, av_qc (.invokevirtual 443) 188 1 0 8), (30, av_q (.aload_n 0)), (31, av_qc (.invokevirtual 427) 164 0 0 8), (34, av_qa (.ifCond .eq 23) 57), (37, av_q (.iload_n 2)), (38, av_q (.aload_n 0)), (39, av_qf (.getfield 357) 8 29 0), (42, av_qa (.if_icmp .ge 15) 57), (45, av_q (.iload_n 3)), (46, av_qa (.ifCond .lt 11) 57), (49, av_q (.iload_n 3)), (50, av_q (.aload_n 0)), (51, av_qf (.getfield 351) 8 27 0), (54, av_qa (.if_icmp .lt 6) 60), (57, av_q (.bipush (-2))), (59, av_q (.ireturn)), (60, av_q (.aload_n 0)), (61, av_q (.iload_n 2)), (62, av_qc (.invokevirtual 412) 165 1 0 8), (65, av_q (.aload_n 0)), (66, av_q (.iload_n 3)), (67, av_q (.iload 4)), (69, av_qc (.invokevirtual 363) 166 2 0 8), (72, av_q (.ireturn))]
def cd_190 : List (Nat × av_E) := [(0, av_q (.iload 4)), (2, av_q (.iconst 0)), (3, av_q (.iconst 2)), (4, av_qc (.invokestatic 176) 127 3 2 8), (7, av_qa (.ifCond .ne 15) 22), (10, av_q (.iload 4)), (12, av_q (.bipush 10)), (14, av_q (.bipush 14)), (16, av_qc (.invokestatic 176) 127 3 2 8), (19, av_qa (.ifCond .eq 13) 32), (22, av_q (.aload_n 0)), (23, av_q (.iload_n 1)), (24, av_q (.iload_n 2)), (25, av_q (.iload_n 3)), (26, av_qc (.invokevirtual 446) 186 3 0 8), (29, av_qa (.ifCond .ne 6) 35), (32, av_q (.bipush (-3))), (34, av_q (.ireturn)), (35, av_q (.aload_n 0)), (36, av_qf (.getfield 381) 8 50 3), (39, av_qa (.ifCond .ne 6) 45), (42, av_q (.bipush (-2))), (44, av_q (.ireturn)), (45, av_q (.iload 4)), (47, av_qa (.ifCond .ne 10) 57), (50, av_q (.aload_n 0)), (51, av_qf (.getfield 387) 8 51 0), (54, av_qa (.goto 38) 92), (57, av_q (.iload 4)), (59, av_q (.iconst 1)), (60, av_qa (.if_icmp .ne 10) 70), (63, av_q (.aload_n 0)), (64, av_qf (.getfield 390) 8 52 0), (67, av_qa (.goto 25) 92), (70, av_q (.iload 4)), (72, av_q (.iconst 2)), (73, av_qa (.if_icmp .ne 10) 83), (76, av_q (.aload_n 0)), (77, av_qf (.getfield 384) 8 53 0), (80, av_qa (.goto 12) 92), (83, av_q (.aload_n 0)), (84, av_q (.iload 4)), (86, av_q (.bipush 10)), (88, av_q (.isub)), (89, av_qc (.invokevirtual 449) 183 1 0 8), (92, av_q (.ireturn))]
def cd_191 : List (Nat × av_E) := [(0, av_q (.iload 5)), (2, av_q (.iconst 0)), (3, av_q (.iconst 2)), (4, av_qc (.invokestatic 176) 127 3 2 8), (7, av_qa (.ifCond .eq 36) 43), (10, av_q (.aload_n 0)), (11, av_q (.iload_n 1)), (12, av_q (.iload_n 2)), (13, av_q (.iload_n 3)), (14, av_qc (.invokevirtual 446) 186 3 0 8), (17, av_qa (.ifCond .eq 26) 43), (20, av_q (.iload 4)), (22, av_qa (.ifCond .lt 21) 43), (25, av_q (.iload 4)), (27, av_q (.aload_n 0)), (28, av_qf (.getfield 351) 8 27 0), (31, av_qa (.if_icmp .ge 12) 43), (34, av_q (.aload_n 0)), (35, av_q (.iload 4)), (37, av_qc (.invokevirtual 369) 168 1 0 8), (40, av_qa (.ifCond .ne 6) 46), (43, av_q (.bipush (-2))), (45, av_q (.ireturn)), (46, av_q (.iload 5)), (48, av_qa (.ifCond .ne 13) 61), (51, av_q (.aload_n 0)), (52, av_qf (.getfield 121) 8 47 2), (55, av_q (.iload 4)), (57, av_q (.iaload)), (58, av_qa (.goto 26) 84), (61, av_q (.iload 5)), (63, av_q (.iconst 1)), (64, av_qa (.if_icmp .ne 13) 77), (67, av_q (.aload_n 0)), (68, av_qf (.getfield 124) 8 48 2), (71, av_q (.iload 4)), (73, av_q (.iaload)), (74, av_qa (.goto 10) 84), (77, av_q (.aload_n 0)), (78, av_qf (.getfield 127) 8 49 2), (81, av_q (.iload 4)), (83, av_q (.iaload)), (84, av_q (.ireturn))]
def cd_192 : List (Nat × av_E) := [(0, av_q (.aload_n 0)), (1, av_q (.iload_n 1)), (2, av_q (.iload_n 2)), (3, av_q (.iload_n 3)), (4, av_qc (.invokevirtual 446) 186 3 0 8), (7, av_qa (.ifCond .ne 6) 13), (10, av_q (.bipush (-2))), (12, av_q (.ireturn)), (13, av_q (.aload_n 0)), (14, av_qf (.getfield 381) 8 50 3), (17, av_qa (.ifCond .eq 29) 46), (20, av_q (.iconst 1)), (21, av_q (.aload_n 0)), (22, av_qf (.getfield 84) 8 35 2), (25, av_q (.aload_n 0)), (26, av_qf (.getfield 390) 8 52 0), (29, av_q (.iaload)), (30, av_q (.ishl)), (31, av_q (.iconst 1)), (32, av_q (.aload_n 0)), (33, av_qf (.getfield 87) 8 36 2), (36, av_q (.aload_n 0)), (37, av_qf (.getfield 390) 8 52 0), (40, av_q (.iaload)), (41, av_q (.ishl)), (42, av_q (.ior)), (43, av_qa (.goto 4) 47), (46, av_q (.iconst 0)), (47, av_q (.ireturn))]
def cd_193 : List (Nat × av_E) := [(0, av_q (.iload_n 3)), (1, av_q (.iconst 0)), (2, av_q (.iconst 4)), (3, av_qc (.invokestatic 176) 127 3 2 8), (6, av_qa (.ifCond .eq 13) 19), (9, av_q (.aload_n 0)), (10, av_q (.iload_n 1)), (11, av_q (.iload_n 2)), (12, av_q (.iconst 0)), (13, av_qc (.invokevirtual 446) 186 3 0 8), (16, av_qa (.ifCond .ne 6) 22), (19, av_q (.bipush (-2))), (21, av_q (.ireturn)), (22, av_q (.iconst 0)), (23, av_q (.istore 4)), (25, av_q (.iconst (-1))), (26, av_q (.istore 5)), (28, av_q (.iconst (-1))), (29, av_q (.istore 6)), (31, av_q (.iconst (-1))), (32, av_q (.istore 7)), (34, av_q (.iconst (-1))), (35, av_q (.istore 8)), (37, av_q (.iconst 0)), (38, av_q (.istore 9)), (40, av_q (.iload 9)), (42, av_q (.aload_n 0)), (43, av_qf (.getfield 357) 8 29 0), (46, av_qa (.if_icmp .ge 81) 127), (49, av_q (.aload_n 0)), (50, av_q (.iload 9)), (52, av_qc (.invokevirtual 431) 181 1 0 8), (55, av_q (.aload_n 0)), (56, av_qf (.getfield 381) 8 50 3), (59, av_qa (.ifCond .ne 15) 74), (62, av_q (.iload 6)), (64, av_qa (.ifCond .ge 57) 121), (67, av_q (.iload 9)), (69, av_q (.istore 6)), (71, av_qa (.goto 50) 121), (74, av_q (.iinc 4 1)), (77, av_q (.iload 5)), (79, av_qa (.ifCond .ge 7) 86), (82, av_q (.iload 9)), (84, av_q (.istore 5)), (86, av_q (.iload 7)), (88, av_qa (.ifCond .lt 12) 100), (91, av_q (.aload_n 0)), (92, av_qf (.getfield 384) 8 53 0), (95, av_q (.iload 7)), (97, av_qa (.if_icmp .ge 9) 106), (100, av_q (.aload_n 0)), (101, av_qf (.getfield 384) 8 53 0), (104, av_q (.istore 7)), (106, av_q (.aload_n 0)), (107, av_qf (.getfield 384) 8 53 0), (110, av_q (.iload 8)), (112, av_qa (.if_icmp .le 9) 121), (115, av_q (.aload_n 0)), (116, av_qf (.getfield 384) 8 53 0), (119, av_q (.istore 8)), (121, av_q (.iinc 9 1)), (124, av_qa (.goto (-84)) 40), (127, av_q (.iload_n 3)), (128, av_qa (.ifCond .ne 8) 136), (131, av_q (.iload 4)), (133, av_qa (.goto 35) 168), (136, av_q (.iload_n 3)), (137, av_q (.iconst 1)), (138, av_qa (.if_icmp .ne 8) 146), (141, av_q (.iload 5)), (143, av_qa (.goto 25) 168), (146, av_q (.iload_n 3)), (147, av_q (.iconst 2)), (148, av_qa (.if_icmp .ne 8) 156), (151, av_q (.iload 6)), (153, av_qa (.goto 15) 168), (156, av_q (.iload_n 3)), (157, av_q (.iconst 3)), (158, av_qa (.if_icmp .ne 8) 166), (161, av_q (.iload 7)), (163, av_qa (.goto 5) 168), (166, av_q (.iload 8)), (168, av_q (.ireturn))]
def cd_194 : List (Nat × av_E) := [(0, av_q (.iconst 0)), (1, av_q (.istore_n 1)), (2, av_q (.iconst 0)), (3, av_q (.istore_n 2)), (4, av_q (.iload_n 2)), (5, av_q (.bipush 16)), (7, av_qa (.if_icmp .ge 17) 24), (10, av_q (.iload_n 1)), (11, av_q (.iload_n 0)), (12, av_q (.iload_n 2)), (13, av_q (.ishr)), (14, av_q (.iconst 1)), (15, av_q (.iand)), (16, av_q (.iadd)), (17, av_q (.istore_n 1)), (18, av_q (.iinc 2 1)), (21, av_qa (.goto (-17)) 4), (24, av_q (.iload_n 1)), (25, av_q (.ireturn))]
def cd_195 : List (Nat × av_E) := [(0, av_q (.iload_n 1)), (1, av_q (.istore_n 3)), (2, av_q (.iconst 0)), (3, av_q (.istore 4)), (5, av_q (.iconst 1)), (6, av_q (.istore 5)), (8, av_q (.iconst 0)), (9, av_q (.istore 6)), (11, av_q (.iload 6)), (13, av_q (.aload_n 0)), (14, av_qf (.getfield 354) 8 28 0), (17, av_qa (.if_icmp .ge 58) 75), (20, av_q (.iload_n 2)), (21, av_q (.iload 6)), (23, av_q (.ishr)), (24, av_q (.iconst 1)), (25, av_q (.iand)), (26, av_q (.iconst 1)), (27, av_qa (.if_icmp .ne 32) 59), (30, av_q (.iload 4)), (32, av_q (.iload 5)), (34, av_q (.iload_n 3)), (35, av_q (.aload_n 0)), (36, av_qf (.getfield 106) 8 42 2), (39, av_q (.iload 6)), (41, av_q (.iaload)), (42, av_q (.irem)), (43, av_q (.imul)), (44, av_q (.iadd)), (45, av_q (.istore 4)), (47, av_q (.iload 5)), (49, av_q (.aload_n 0)), (50, av_qf (.getfield 106) 8 42 2), (53, av_q (.iload 6)), (55, av_q (.iaload)), (56, av_q (.imul)), (57, av_q (.istore 5)), (59, av_q (.iload_n 3)), (60, av_q (.aload_n 0)), (61, av_qf (.getfield 106) 8 42 2), (64, av_q (.iload 6)), (66, av_q (.iaload)), (67, av_q (.idiv)), (68, av_q (.istore_n 3)), (69, av_q (.iinc 6 1)), (72, av_qa (.goto (-61)) 11), (75, av_q (.iload 4)), (77, av_q (.ireturn))]
def cd_196 : List (Nat × av_E) := [(0, av_q (.iconst 0)), (1, av_q (.istore_n 2)), (2, av_q (.iload_n 2)), (3, av_q (.sipush 1024)), (6, av_qa (.if_icmp .ge 16) 22), (9, av_q (.aload_n 0)), (10, av_qf (.getfield 139) 8 57 2), (13, av_q (.iload_n 2)), (14, av_q (.iconst 0)), (15, av_q (.iastore)), (16, av_q (.iinc 2 1)), (19, av_qa (.goto (-17)) 2), (22, av_q (.iconst 0)), (23, av_q (.istore_n 2)), (24, av_q (.iload_n 2)), (25, av_q (.aload_n 0)), (26, av_qf (.getfield 357) 8 29 0), (29, av_qa (.if_icmp .ge 62) 91), (32, av_q (.aload_n 0)), (33, av_q (.iload_n 2)), (34, av_q (.iload_n 1)), (35, av_qc (.invokevirtual 452) 195 2 0 8), (38, av_q (.istore_n 3)), (39, av_q (.aload_n 0)), (40, av_qf (.getfield 136) 8 56 2), (43, av_q (.iload_n 2)), (44, av_q (.baload)), (45, av_qa (.ifCond .eq 7) 52), (48, av_q (.iconst 2)), (49, av_qa (.goto 4) 53), (52, av_q (.iconst 1)), (53, av_q (.istore 4)), (55, av_q (.aload_n 0)), (56, av_qf (.getfield 139) 8 57 2), (59, av_q (.iload_n 3)), (60, av_q (.iaload)), (61, av_qa (.ifCond .le 16) 77), (64, av_q (.aload_n 0)), (65, av_qf (.getfield 139) 8 57 2), (68, av_q (.iload_n 3)), (69, av_q (.iaload)), (70, av_q (.iload 4)), (72, av_qa (.if_icmp .eq 5) 77), (75, av_q (.iconst 0)), (76, av_qa (.ireturn) 1), (77, av_q (.aload_n 0)), (78, av_qf (.getfield 139) 8 57 2), (81, av_q (.iload_n 3)), (82, av_q (.iload 4)), (84, av_q (.iastore)), (85, av_q (.iinc 2 1)), (88, av_qa (.goto (-64)) 24), (91, av_q (.iconst 1)), (92, av_qa (.ireturn) 1)]
def cd_197 : List (Nat × av_E) := [(0, av_q (.aload_n 0)), (1, av_q (.iload_n 1)), (2, av_q (.iload_n 2)), (3, av_q (.iconst 0)), (4, av_qc (.invokevirtual 446) 186 3 0 8), (7, av_qa (.ifCond .eq 12) 19), (10, av_q (.aload_n 0)), (11, av_qf (.getfield 354) 8 28 0), (14, av_q (.bipush 12)), (16, av_qa (.if_icmp .le 6) 22), (19, av_q (.bipush (-2))), (21, av_q (.ireturn)), (22, av_q (.iconst 0)), (23, av_q (.istore_n 3)), (24, av_q (.iload_n 3)), (25, av_q (.aload_n 0)), (26, av_qf (.getfield 357) 8 29 0), (29, av_qa (.if_icmp .ge 24) 53), (32, av_q (.aload_n 0)), (33, av_q (.iload_n 3)), (34, av_qc (.invokevirtual 431) 181 1 0 8), (37, av_q (.aload_n 0)), (38, av_qf (.getfield 136) 8 56 2), (41, av_q (.iload_n 3)), (42, av_q (.aload_n 0)), (43, av_qf (.getfield 381) 8 50 3), (46, av_q (.bastore)), (47, av_q (.iinc 3 1)), (50, av_qa (.goto (-26)) 24), (53, av_q (.iconst (-1))), (54, av_q (.istore_n 3)), (55, av_q (.iconst 0)), (56, av_q (.istore 4)), (58, av_q (.iload 4)), (60, av_q (.iconst 1)), (61, av_q (.aload_n 0)), (62, av_qf (.getfield 354) 8 28 0), (65, av_q (.ishl)), (66, av_qa (.if_icmp .ge 37) 103), (69, av_q (.iload_n 3)), (70, av_qa (.ifCond .lt 15) 85), (73, av_q (.iload 4)), (75, av_qc (.invokestatic 455) 194 1 2 8), (78, av_q (.iload_n 3)), (79, av_qc (.invokestatic 455) 194 1 2 8), (82, av_qa (.if_icmp .ge 15) 97), (85, av_q (.aload_n 0)), (86, av_q (.iload 4)), (88, av_qc (.invokevirtual 458) 196 1 0 8), (91, av_qa (.ifCond .eq 6) 97), (94, av_q (.iload 4)), (96, av_q (.istore_n 3)), (97, av_q (.iinc 4 1)), (100, av_qa (.goto (-42)) 58), (103, av_q (.iload_n 3)), (104, av_q (.ireturn))]
def cd_198 : List (Nat × av_E) := [(0, av_q (.iload 4)), (2, av_qa (.ifCond .lt 13) 15), (5, av_q (.aload_n 0)), (6, av_q (.iload_n 1)), (7, av_q (.iload_n 2)), (8, av_q (.iload_n 3)), (9, av_qc (.invokevirtual 446) 186 3 0 8), (12, av_qa (.ifCond .ne 6) 18), (15, av_q (.bipush (-2))), (17, av_q (.ireturn)), (18, av_q (.aload_n 0)), (19, av_qf (.getfield 381) 8 50 3), (22, av_qa (.ifCond .ne 5) 27), (25, av_q (.iconst (-1))), (26, av_q (.ireturn)), (27, av_q (.aload_n 0)), (28, av_qf (.getfield 66) 8 26 2), (31, av_q (.bipush 12)), (33, av_q (.iaload)), (34, av_qa (.ifCond .ne 10) 44), (37, av_q (.aload_n 0)), (38, av_qf (.getfield 384) 8 53 0), (41, av_qa (.goto 4) 45), (44, av_q (.iconst (-1))), (45, av_q (.istore 5)), (47, av_q (.iconst 0)), (48, av_q (.istore 6)), (50, av_q (.iload 6)), (52, av_q (.aload_n 0)), (53, av_qf (.getfield 351) 8 27 0), (56, av_qa (.if_icmp .ge 87) 143), (59, av_q (.aload_n 0)), (60, av_qf (.getfield 66) 8 26 2), (63, av_q (.bipush 12)), (65, av_q (.iaload)), (66, av_qa (.ifCond .le 77) 143), (69, av_q (.aload_n 0)), (70, av_qf (.getfield 69) 8 30 2), (73, av_q (.iload 6)), (75, av_q (.iaload)), (76, av_q (.bipush 7)), (78, av_qa (.if_icmp .ne 35) 113), (81, av_q (.aload_n 0)), (82, av_qf (.getfield 81) 8 34 2), (85, av_q (.iload 6)), (87, av_q (.iaload)), (88, av_q (.aload_n 0)), (89, av_qf (.getfield 390) 8 52 0), (92, av_qa (.if_icmp .ne 21) 113), (95, av_q (.aload_n 0)), (96, av_q (.iload 6)), (98, av_q (.aload_n 0)), (99, av_qf (.getfield 66) 8 26 2), (102, av_q (.bipush 12)), (104, av_q (.iaload)), (105, av_q (.iconst 1)), (106, av_q (.isub)), (107, av_qc (.invokevirtual 363) 166 2 0 8), (110, av_qa (.goto 4) 114), (113, av_q (.iconst (-1))), (114, av_q (.istore 7)), (116, av_q (.iload 7)), (118, av_qa (.ifCond .lt 19) 137), (121, av_q (.iload 5)), (123, av_qa (.ifCond .lt 10) 133), (126, av_q (.iload 7)), (128, av_q (.iload 5)), (130, av_qa (.if_icmp .ge 7) 137), (133, av_q (.iload 7)), (135, av_q (.istore 5)), (137, av_q (.iinc 6 1)), (140, av_qa (.goto (-90)) 50), (143, av_q (.iload 5)), (145, av_qa (.ifCond .lt 18) 163), (148, av_q (.iload 5)), (150, av_q (.aload_n 0)), (151, av_qf (.getfield 384) 8 53 0), (154, av_qa (.if_icmp .ge 9) 163), (157, av_q (.aload_n 0)), (158, av_qf (.getfield 384) 8 53 0), (161, av_q (.istore 5)), (163, av_q (.iload 5)), (165, av_qa (.ifCond .lt 22) 187), (168, av_q (.iload 4)), (170, av_q (.iload 5)), (172, av_qa (.if_icmp .lt 15) 187), (175, av_q (.aload_n 0)), (176, av_qf (.getfield 87) 8 36 2), (179, av_q (.aload_n 0)), (180, av_qf (.getfield 390) 8 52 0), (183, av_q (.iaload)), (184, av_qa (.goto 12) 196), (187, av_q (.aload_n 0)), (188, av_qf (.getfield 84) 8 35 2), (191, av_q (.aload_n 0)), (192, av_qf (.getfield 390) 8 52 0), (195, av_q (.iaload)), (196, av_q (.ireturn))]
def cd_199 : List (Nat × av_E) := [(0, av_q (.aload_n 0)), (1, av_q (.iload_n 1)), (2, av_q (.iload_n 2)), (3, av_q (.iload_n 3)), (4, av_qc (.invokevirtual 446) 186 3 0 8), (7, av_qa (.ifCond .ne 6) 13), (10, av_q (.bipush (-2))), (12, av_q (.ireturn)), (13, av_q (.iload 4)), (15, av_q (.bipush (-2))), (17, av_qa (.if_icmp .eq 7) 24), (20, av_q (.iconst 1)), (21, av_qa (.goto 4) 25), (24, av_q (.iconst 0)), (25, av_q (.aload_n 0)), (26, av_qf (.getfield 381) 8 50 3), (29, av_qa (.if_icmp .eq 5) 34), (32, av_q (.iconst 0)), (33, av_q (.ireturn)), (34, av_q (.aload_n 0)), (35, av_qf (.getfield 381) 8 50 3), (38, av_qa (.ifCond .ne 5) 43), (41, av_q (.iconst (-1))), (42, av_q (.ireturn)), (43, av_q (.iload 4)), (45, av_q (.aload_n 0)), (46, av_qf (.getfield 387) 8 51 0), (49, av_qa (.if_icmp .eq 7) 56), (52, av_q (.iconst 1)), (53, av_qa (.goto 17) 70), (56, av_q (.iload 5)), (58, av_q (.aload_n 0)), (59, av_qf (.getfield 384) 8 53 0), (62, av_qa (.if_icmp .eq 7) 69), (65, av_q (.iconst 2)), (66, av_qa (.goto 4) 70), (69, av_q (.iconst (-1))), (70, av_q (.ireturn))]
def cd_200 : List (Nat × av_E) := [(0, av_q (.aload_n 0)), (1, av_q (.iload_n 1)), (2, av_q (.iload_n 2)), (3, av_q (.iconst 0)), (4, av_qc (.invokevirtual 446) 186 3 0 8), (7, av_qa (.ifCond .ne 5) 12), (10, av_q (.iconst 0)), (11, av_qa (.ireturn) 1), (12, av_q (.aload_n 0)), (13, av_q (.iconst 0)), (14, av_qf (.putfield 461) 8 60 0), (17, av_q (.aload_n 0)), (18, av_q (.iconst (-1))), (19, av_qf (.putfield 464) 8 61 0), (22, av_q (.iconst 0)), (23, av_q (.istore 4)), (25, av_q (.iload 4)), (27, av_q (.aload_n 0)), (28, av_qf (.getfield 357) 8 29 0), (31, av_qa (.if_icmp .ge 81) 112), (34, av_q (.aload_n 0)), (35, av_q (.iload 4)), (37, av_qc (.invokevirtual 431) 181 1 0 8), (40, av_q (.aload_n 0)), (41, av_qf (.getfield 142) 8 58 2), (44, av_q (.iload 4)), (46, av_q (.aload_n 0)), (47, av_qf (.getfield 381) 8 50 3), (50, av_qa (.ifCond .eq 10) 60), (53, av_q (.aload_n 0)), (54, av_qf (.getfield 384) 8 53 0), (57, av_qa (.goto 4) 61), (60, av_q (.iconst (-1))), (61, av_q (.iastore)), (62, av_q (.iconst 0)), (63, av_q (.istore 5)), (65, av_q (.iload 5)), (67, av_q (.iconst 5)), (68, av_qa (.if_icmp .ge 38) 106), (71, av_q (.aload_n 0)), (72, av_qf (.getfield 145) 8 59 2), (75, av_q (.iconst 5)), (76, av_q (.iload 4)), (78, av_q (.imul)), (79, av_q (.iload 5)), (81, av_q (.iadd)), (82, av_q (.aload_n 0)), (83, av_qf (.getfield 381) 8 50 3), (86, av_qa (.ifCond .eq 12) 98), (89, av_q (.aload_n 0)), (90, av_q (.iload 5)), (92, av_qc (.invokevirtual 449) 183 1 0 8), (95, av_qa (.goto 4) 99), (98, av_q (.iconst (-1))), (99, av_q (.iastore)), (100, av_q (.iinc 5 1)), (103, av_qa (.goto (-38)) 65), (106, av_q (.iinc 4 1)), (109, av_qa (.goto (-84)) 25), (112, av_q (.aload_n 0)), (113, av_q (.iload_n 3)), (114, av_q (.iconst 0)), (115, av_qc (.invokevirtual 348) 159 2 0 8), (118, av_q (.aload_n 0)), (119, av_q (.iload_n 1)), (120, av_qc (.invokevirtual 440) 185 1 0 8), (123, av_q (.iconst 0)), (124, av_q (.istore 4)), (126, av_q (.iload 4)), (128, av_q (.aload_n 0)), (129, av_qf (.getfield 357) 8 29 0), (132, av_qa (.if_icmp .ge 133) 265), (135, av_q (.aload_n 0)), (136, av_q (.iload 4)), (138, av_qc (.invokevirtual 431) 181 1 0 8), (141, av_q (.aload_n 0)), (142, av_qf (.getfield 142) 8 58 2), (145, av_q (.iload 4)), (147, av_q (.iaload)), (148, av_q (.aload_n 0)), (149, av_qf (.getfield 381) 8 50 3), (152, av_qa (.ifCond .eq 10) 162), (155, av_q (.aload_n 0)), (156, av_qf (.getfield 384) 8 53 0), (159, av_qa (.goto 4) 163), (162, av_q (.iconst (-1))), (163, av_qa (.if_icmp .eq 7) 170), (166, av_q (.iconst 1)), (167, av_qa (.goto 4) 171), (170, av_q (.iconst 0)), (171, av_q (.istore 5)), (173, av_q (.iconst 0)), (174, av_q (.istore 6)), (176, av_q (.iload 6)), (178, av_q (.iconst 5)), (179, av_qa (.if_icmp .ge 49) 228), (182, av_q (.aload_n 0)), (183, av_qf (.getfield 381) 8 50 3), (186, av_qa (.ifCond .eq 42) 228), (189, av_q (.iload 5)), (191, av_qa (.ifCond .ne 24) 215), (194, av_q (.aload_n 0)), (195, av_qf (.getfield 145) 8 59 2), (198, av_q (.iconst 5)), (199, av_q (.iload 4)), (201, av_q (.imul)), (202, av_q (.iload 6)), (204, av_q (.iadd)), (205, av_q (.iaload)), (206, av_q (.aload_n 0)), (207, av_q (.iload 6)), (209, av_qc (.invokevirtual 449) 183 1 0 8), (212, av_qa (.if_icmp .eq 7) 219), (215, av_q (.iconst 1)), (216, av_qa (.goto 4) 220), (219, av_q (.iconst 0)), (220, av_q (.istore 5)), (222, av_q (.iinc 6 1)), (225, av_qa (.goto (-49)) 176), (228, av_q (.iload 5)), (230, av_qa (.ifCond .ne 6) 236), (233, av_qa (.goto 26) 259), (236, av_q (.aload_n 0)), (237, av_q (.dup)), (238, av_qf (.getfield 461) 8 60 0), (241, av_q (.iconst 1)), (242, av_q (.iadd)), (243, av_qf (.putfield 461) 8 60 0), (246, av_q (.aload_n 0)), (247, av_qf (.getfield 464) 8 61 0), (250, av_qa (.ifCond .ge 9) 259), (253, av_q (.aload_n 0)), (254, av_q (.iload 4)), (256, av_qf (.putfield 464) 8 61 0), (259, av_q (.iinc 4 1)), (262, av_qa (.goto (-136)) 126), (265, av_q (.iconst 1)), (266, av_qa (.ireturn) 1)]
def cd_201 : List (Nat × av_E) := [(0, av_q (.aload_n 0)), (1, av_q (.iload_n 3)), (2, av_qc (.invokevirtual 345) 150 1 0 8), (5, av_qa (.ifCond .eq 23) 28), (8, av_q (.iload 4)), (10, av_q (.iconst 0)), (11, av_q (.iconst 1)), (12, av_qc (.invokestatic 176) 127 3 2 8), (15, av_qa (.ifCond .eq 13) 28), (18, av_q (.aload_n 0)), (19, av_q (.iload_n 1)), (20, av_q (.iload_n 2)), (21, av_q (.iload_n 3)), (22, av_qc (.invokevirtual 467) 200 3 0 8), (25, av_qa (.ifCond .ne 6) 31), (28, av_q (.bipush (-2))), (30, av_q (.ireturn)), (31, av_q (.iload 4)), (33, av_qa (.ifCond .ne 10) 43), (36, av_q (.aload_n 0)), (37, av_qf (.getfield 461) 8 60 0), (40, av_qa (.goto 7) 47), (43, av_q (.aload_n 0)), (44, av_qf (.getfield 464) 8 61 0), (47, av_q (.ireturn))]
def cd_202 : List (Nat × av_E) := [(0, av_q (.aload_n 0)), (1, av_q (.iload_n 1)), (2, av_qc (.invokevirtual 345) 150 1 0 8), (5, av_qa (.ifCond .eq 11) 16), (8, av_q (.aload_n 0)), (9, av_q (.iload_n 2)), (10, av_qc (.invokevirtual 345) 150 1 0 8), (13, av_qa (.ifCond .ne 6) 19), (16, av_q (.bipush (-2))), (18, av_q (.ireturn)), (19, av_q (.iconst (-1))), (20, av_q (.istore_n 3)), (21, av_q (.iconst 0)), (22, av_q (.istore 4)), (24, av_q (.iload 4)), (26, av_q (.aload_n 0)), (27, av_qf (.getfield 7) 8 0 2), (30, av_q (.iconst 0)), (31, av_q (.iaload)), (32, av_qa (.if_icmp .ge 50) 82), (35, av_q (.iload_n 3)), (36, av_qa (.ifCond .lt 19) 55), (39, av_q (.aload_n 0)), (40, av_qf (.getfield 19) 8 3 2), (43, av_q (.iload 4)), (45, av_q (.iaload)), (46, av_q (.aload_n 0)), (47, av_qf (.getfield 19) 8 3 2), (50, av_q (.iload_n 3)), (51, av_q (.iaload)), (52, av_qa (.if_icmp .ge 24) 76), (55, av_q (.aload_n 0)), (56, av_q (.iload 4)), (58, av_q (.iload_n 1)), (59, av_q (.iload_n 2)), (60, av_qc (.invokevirtual 467) 200 3 0 8), (63, av_qa (.ifCond .eq 13) 76), (66, av_q (.aload_n 0)), (67, av_qf (.getfield 461) 8 60 0), (70, av_qa (.ifCond .le 6) 76), (73, av_q (.iload 4)), (75, av_q (.istore_n 3)), (76, av_q (.iinc 4 1)), (79, av_qa (.goto (-55)) 24), (82, av_q (.iload_n 3)), (83, av_q (.ireturn))]
def cd_203 : List (Nat × av_E) := [(0, av_q (.iconst 0)), (1, av_q (.istore_n 3)), (2, av_q (.iload_n 3)), (3, av_q (.aload_n 0)), (4, av_qf (.getfield 13) 8 1 2), (7, av_q (.iconst 0)), (8, av_q (.iaload)), (9, av_qa (.if_icmp .ge 29) 38), (12, av_q (.aload_n 0)), (13, av_q (.iload_n 3)), (14, av_q (.iload_n 2)), (15, av_qc (.invokevirtual 348) 159 2 0 8), (18, av_q (.aload_n 0)), (19, av_q (.iload_n 1)), (20, av_qc (.invokevirtual 440) 185 1 0 8), (23, av_q (.aload_n 0)), (24, av_qc (.invokevirtual 437) 184 0 0 8), (27, av_qa (.ifCond .ne 5) 32), (30, av_q (.iconst 0)), (31, av_qa (.ireturn) 1), (32, av_q (.iinc 3 1)), (35, av_qa (.goto (-33)) 2), (38, av_q (.iconst 1)), (39, av_qa (.ireturn) 1)]
def cd_204 : List (Nat × av_E) := [(0, av_q (.aload_n 0)), (1, av_qf (.getfield 13) 8 1 2), (4, av_q (.iconst 0)), (5, av_q (.iaload)), (6, av_qa (.ifCond .eq 13) 19), (9, av_q (.aload_n 0)), (10, av_q (.iload_n 1)), (11, av_q (.iconst 0)), (12, av_q (.iconst 0)), (13, av_qc (.invokevirtual 446) 186 3 0 8), (16, av_qa (.ifCond .ne 6) 22), (19, av_q (.bipush (-2))), (21, av_q (.ireturn)), (22, av_q (.iconst (-1))), (23, av_q (.istore_n 2)), (24, av_q (.iconst 0)), (25, av_q (.istore_n 3)), (26, av_q (.iload_n 3)), (27, av_q (.iconst 1)), (28, av_q (.aload_n 0)), (29, av_qf (.getfield 16) 8 2 2), (32, av_q (.iconst 0)), (33, av_q (.iaload)), (34, av_q (.ishl)), (35, av_qa (.if_icmp .ge 35) 70), (38, av_q (.iload_n 2)), (39, av_qa (.ifCond .lt 14) 53), (42, av_q (.iload_n 3)), (43, av_qc (.invokestatic 455) 194 1 2 8), (46, av_q (.iload_n 2)), (47, av_qc (.invokestatic 455) 194 1 2 8), (50, av_qa (.if_icmp .ge 14) 64), (53, av_q (.aload_n 0)), (54, av_q (.iload_n 1)), (55, av_q (.iload_n 3)), (56, av_qc (.invokevirtual 470) 203 2 0 8), (59, av_qa (.ifCond .eq 5) 64), (62, av_q (.iload_n 3)), (63, av_q (.istore_n 2)), (64, av_q (.iinc 3 1)), (67, av_qa (.goto (-41)) 26), (70, av_q (.iload_n 2)), (71, av_q (.ireturn))]
def cd_205 : List (Nat × av_E) := [(0, av_q (.aload_n 0)), (1, av_q (.iload_n 1)), (2, av_q (.iload_n 2)), (3, av_q (.iload_n 3)), (4, av_qc (.invokevirtual 446) 186 3 0 8), (7, av_qa (.ifCond .eq 17) 24), (10, av_q (.iload 4)), (12, av_qa (.ifCond .lt 12) 24), (15, av_q (.iload 4)), (17, av_q (.aload_n 0)), (18, av_qf (.getfield 351) 8 27 0), (21, av_qa (.if_icmp .lt 6) 27), (24, av_q (.bipush (-2))), (26, av_q (.ireturn)), (27, av_q (.aload_n 0)), (28, av_q (.iload 4)), (30, av_qc (.invokevirtual 369) 168 1 0 8), (33, av_qa (.ifCond .eq 17) 50), (36, av_q (.aload_n 0)), (37, av_qf (.getfield 121) 8 47 2), (40, av_q (.iload 4)), (42, av_q (.iaload)), (43, av_qa (.ifCond .lt 7) 50), (46, av_q (.iconst 1)), (47, av_qa (.goto 4) 51), (50, av_q (.iconst 0)), (51, av_q (.istore 5)), (53, av_q (.aload_n 0)), (54, av_qf (.getfield 81) 8 34 2), (57, av_q (.iload 4)), (59, av_q (.iaload)), (60, av_q (.istore 6)), (62, av_q (.iload 6)), (64, av_qa (.ifCond .lt 118) 182), (67, av_q (.aload_n 0)), (68, av_q (.iload 6)), (70, av_qc (.invokevirtual 369) 168 1 0 8), (73, av_qa (.ifCond .eq 109) 182), (76, av_q (.aload_n 0)), (77, av_qf (.getfield 127) 8 49 2), (80, av_q (.iload 6)), (82, av_q (.iaload)), (83, av_qa (.ifCond .le 99) 182), (86, av_q (.aload_n 0)), (87, av_qf (.getfield 127) 8 49 2), (90, av_q (.iload 6)), (92, av_q (.iaload)), (93, av_q (.iconst 3)), (94, av_qa (.if_icmp .ge 88) 182), (97, av_q (.iconst (-1))), (98, av_q (.istore 7)), (100, av_q (.aload_n 0)), (101, av_qf (.getfield 351) 8 27 0), (104, av_q (.iconst 1)), (105, av_q (.isub)), (106, av_q (.istore 8)), (108, av_q (.iload 8)), (110, av_q (.iload 6)), (112, av_qa (.if_icmp .le 53) 165), (115, av_q (.aload_n 0)), (116, av_qf (.getfield 127) 8 49 2), (119, av_q (.iload 6)), (121, av_q (.iaload)), (122, av_q (.iconst 1)), (123, av_qa (.if_icmp .ne 14) 137), (126, av_q (.aload_n 0)), (127, av_q (.iload 8)), (129, av_q (.iload 6)), (131, av_qc (.invokevirtual 372) 171 2 0 8), (134, av_qa (.goto 11) 145), (137, av_q (.aload_n 0)), (138, av_q (.iload 8)), (140, av_q (.iload 6)), (142, av_qc (.invokevirtual 378) 172 2 0 8), (145, av_q (.aload_n 0)), (146, av_qf (.getfield 124) 8 48 2), (149, av_q (.iload 6)), (151, av_q (.iaload)), (152, av_qa (.if_icmp .ne 7) 159), (155, av_q (.iload 8)), (157, av_q (.istore 7)), (159, av_q (.iinc 8 (-1))), (162, av_qa (.goto (-54)) 108), (165, av_q (.iload 5)), (167, av_q (.iload 7)), (169, av_q (.iload 4)), (171, av_qa (.if_icmp .ne 7) 178), (174, av_q (.iconst 2)), (175, av_qa (.goto 4) 179), (178, av_q (.iconst 0)), (179, av_q (.ior)), (180, av_q (.istore 5)), (182, av_q (.iload 5)), (184, av_q (.aload_n 0)), (185, av_qf (.getfield 381) 8 50 3), (188, av_qa (.ifCond .eq 16) 204), (191, av_q (.aload_n 0)), (192, av_qf (.getfield 387) 8 51 0), (195, av_q (.iload 4)), (197, av_qa (.if_icmp .ne 7) 204), (200, av_q (.iconst 4)), (201, av_qa (.goto 4) 205), (204, av_q (.iconst 0)), (205, av_q (.ior)), (206, av_q (.istore 5)), (208, av_q (.aload_n 0)), (209, av_qf (.getfield 69) 8 30 2), (212, av_q (.iload 4)), (214, av_q (.iaload)), (215, av_q (.iconst 5)), (216, av_qa (.if_icmp .ne 53) 269), (219, av_q (.aload_n 0)), (220, av_q (.iload 6)), (222, av_qc (.invokevirtual 393) 170 1 0 8), (225, av_qa (.ifCond .eq 44) 269), (228, av_q (.aload_n 0)), (229, av_q (.iload 4)), (231, av_q (.aload_n 0)), (232, av_qf (.getfield 66) 8 26 2), (235, av_q (.iconst 4)), (236, av_q (.iaload)), (237, av_qc (.invokevirtual 363) 166 2 0 8), (240, av_q (.istore 7)), (242, av_q (.iload 5)), (244, av_q (.iload 7)), (246, av_qa (.ifCond .lt 19) 265), (249, av_q (.iload 7)), (251, av_q (.aload_n 0)), (252, av_q (.iload 6)), (254, av_qc (.invokevirtual 396) 176 1 0 8), (257, av_qa (.if_icmp .ge 8) 265), (260, av_q (.bipush 8)), (262, av_qa (.goto 4) 266), (265, av_q (.iconst 0)), (266, av_q (.ior)), (267, av_q (.istore 5)), (269, av_q (.iload 5)), (271, av_q (.ireturn))]
def cd_206 : List (Nat × av_E) := [(0, av_q (.aload_n 0)), (1, av_qf (.getfield 381) 8 50 3), (4, av_qa (.ifCond .eq 13) 17), (7, av_q (.iload_n 2)), (8, av_q (.aload_n 0)), (9, av_qf (.getfield 384) 8 53 0), (12, av_qa (.if_icmp .lt 5) 17), (15, av_q (.iconst 0)), (16, av_q (.ireturn)), (17, av_q (.iconst 0)), (18, av_q (.istore_n 3)), (19, av_q (.iconst 0)), (20, av_q (.istore 4)), (22, av_q (.iload 4)), (24, av_q (.aload_n 0)), (25, av_qf (.getfield 351) 8 27 0), (28, av_qa (.if_icmp .ge 113) 141), (31, av_q (.aload_n 0)), (32, av_q (.iload 4)), (34, av_qc (.invokevirtual 369) 168 1 0 8), (37, av_qa (.ifCond .eq 98) 135), (40, av_q (.aload_n 0)), (41, av_q (.iload 4)), (43, av_q (.iload_n 2)), (44, av_qc (.invokevirtual 403) 175 2 0 8), (47, av_qa (.ifCond .ne 6) 53), (50, av_qa (.goto 85) 135), (53, av_q (.aload_n 0)), (54, av_qf (.getfield 84) 8 35 2), (57, av_q (.iload 4)), (59, av_q (.iaload)), (60, av_q (.iload_n 1)), (61, av_qa (.if_icmp .ne 38) 99), (64, av_q (.aload_n 0)), (65, av_qf (.getfield 78) 8 33 2), (68, av_q (.iload 4)), (70, av_q (.iaload)), (71, av_qa (.ifCond .lt 24) 95), (74, av_q (.aload_n 0)), (75, av_qf (.getfield 66) 8 26 2), (78, av_q (.bipush 6)), (80, av_q (.iaload)), (81, av_qa (.ifCond .eq 14) 95), (84, av_q (.iload_n 2)), (85, av_q (.aload_n 0)), (86, av_qf (.getfield 78) 8 33 2), (89, av_q (.iload 4)), (91, av_q (.iaload)), (92, av_qa (.if_icmp .le 7) 99), (95, av_q (.iload_n 3)), (96, av_q (.iconst 1)), (97, av_q (.ior)), (98, av_q (.istore_n 3)), (99, av_q (.aload_n 0)), (100, av_qf (.getfield 87) 8 36 2), (103, av_q (.iload 4)), (105, av_q (.iaload)), (106, av_q (.iload_n 1)), (107, av_qa (.if_icmp .ne 28) 135), (110, av_q (.aload_n 0)), (111, av_qf (.getfield 112) 8 44 2), (114, av_q (.iload 4)), (116, av_q (.iaload)), (117, av_qa (.ifCond .lt 18) 135), (120, av_q (.aload_n 0)), (121, av_qf (.getfield 112) 8 44 2), (124, av_q (.iload 4)), (126, av_q (.iaload)), (127, av_q (.iload_n 2)), (128, av_qa (.if_icmp .gt 7) 135), (131, av_q (.iload_n 3)), (132, av_q (.iconst 2)), (133, av_q (.ior)), (134, av_q (.istore_n 3)), (135, av_q (.iinc 4 1)), (138, av_qa (.goto (-116)) 22), (141, av_q (.iload_n 3)), (142, av_q (.ireturn))]
def cd_207 : List (Nat × av_E) := [(0, av_q (.iload 4)), (2, av_q (.iconst 0)), (3, av_q (.iconst 2)), (4, av_qc (.invokestatic 176) 127 3 2 8), (7, av_qa (.ifCond .eq 25) 32), (10, av_q (.iload 5)), (12, av_q (.iconst 0)), (13, av_q (.sipush 9998)), (16, av_qc (.invokestatic 176) 127 3 2 8), (19, av_qa (.ifCond .eq 13) 32), (22, av_q (.aload_n 0)), (23, av_q (.iload_n 1)), (24, av_q (.iload_n 2)), (25, av_q (.iload_n 3)), (26, av_qc (.invokevirtual 446) 186 3 0 8), (29, av_qa (.ifCond .ne 6) 35), (32, av_q (.bipush (-2))), (34, av_q (.ireturn)), (35, av_q (.aload_n 0)), (36, av_q (.iload 4)), (38, av_q (.iload 5)), (40, av_qc (.invokevirtual 473) 206 2 0 8), (43, av_q (.ireturn))]
def cd_208 : List (Nat × av_E) := [(0, av_q (.iload 4)), (2, av_q (.iconst 0)), (3, av_q (.iconst 2)), (4, av_qc (.invokestatic 176) 127 3 2 8), (7, av_qa (.ifCond .eq 23) 30), (10, av_q (.iload 5)), (12, av_q (.iconst 1)), (13, av_q (.iconst 2)), (14, av_qc (.invokestatic 176) 127 3 2 8), (17, av_qa (.ifCond .eq 13) 30), (20, av_q (.aload_n 0)), (21, av_q (.iload_n 1)), (22, av_q (.iload_n 2)), (23, av_q (.iload_n 3)), (24, av_qc (.invokevirtual 446) 186 3 0 8), (27, av_qa (.ifCond .ne 6) 33), (30, av_q (.bipush (-2))), (32, av_q (.ireturn)), (33, av_q (.sipush 9998)), (36, av_q (.istore 6)), (38, av_q (.iload 6)), (40, av_qa (.ifCond .lt 23) 63), (43, av_q (.aload_n 0)), (44, av_q (.iload 4)), (46, av_q (.iload 6)), (48, av_qc (.invokevirtual 473) 206 2 0 8), (51, av_q (.iload 5)), (53, av_q (.iand)), (54, av_qa (.ifCond .ne 9) 63), (57, av_q (.iinc 6 (-1))), (60, av_qa (.goto (-22)) 38), (63, av_q (.iload 6)), (65, av_q (.ireturn))]
def cd_209 : List (Nat × av_E) := [(0, av_q (.aload_n 0)), (1, av_qc (.invokevirtual 424) 163 0 0 8), (4, av_q (.aload_n 0)), (5, av_qc (.invokevirtual 427) 164 0 0 8), (8, av_qa (.ifCond .ne 6) 14), (11, av_q (.bipush (-2))), (13, av_q (.ireturn)), (14, av_q (.iconst 0)), (15, av_q (.istore_n 1)), (16, av_q (.iconst 0)), (17, av_q (.istore_n 2)), (18, av_q (.iload_n 2)), (19, av_q (.aload_n 0)), (20, av_qf (.getfield 357) 8 29 0), (23, av_qa (.if_icmp .ge 29) 52), (26, av_q (.aload_n 0)), (27, av_q (.iload_n 2)), (28, av_qc (.invokevirtual 431) 181 1 0 8), (31, av_q (.iload_n 1)), (32, av_q (.aload_n 0)), (33, av_qf (.getfield 381) 8 50 3), (36, av_qa (.ifCond .eq 7) 43), (39, av_q (.iconst 1)), (40, av_qa (.goto 4) 44), (43, av_q (.iconst 0)), (44, av_q (.iadd)), (45, av_q (.istore_n 1)), (46, av_q (.iinc 2 1)), (49, av_qa (.goto (-31)) 18), (52, av_q (.iload_n 1)), (53, av_q (.ireturn))]
def cd_210 : List (Nat × av_E) := [(0, av_q (.aload_n 0)), (1, av_q (.iload_n 1)), (2, av_qc (.invokevirtual 299) 149 1 0 8), (5, av_qa (.ifCond .eq 29) 34), (8, av_q (.aload_n 0)), (9, av_q (.iload_n 2)), (10, av_qc (.invokevirtual 345) 150 1 0 8), (13, av_qa (.ifCond .eq 21) 34), (16, av_q (.iload_n 3)), (17, av_qa (.ifCond .lt 17) 34), (20, av_q (.iload_n 3)), (21, av_q (.aload_n 0)), (22, av_qf (.getfield 19) 8 3 2), (25, av_q (.iload_n 1)), (26, av_q (.iaload)), (27, av_qa (.if_icmp .ge 7) 34), (30, av_q (.iconst 1)), (31, av_qa (.goto 4) 35), (34, av_q (.iconst 0)), (35, av_qa (.ireturn) 1)]
def cd_211 : List (Nat × av_E) := [(0, av_q (.aload_n 0)), (1, av_q (.iload_n 1)), (2, av_q (.iload_n 2)), (3, av_q (.iload_n 3)), (4, av_qc (.invokevirtual 476) 210 3 0 8), (7, av_qa (.ifCond .eq 18) 25), (10, av_q (.aload_n 0)), (11, av_qf (.getfield 34) 8 8 2), (14, av_q (.bipush 12)), (16, av_q (.iload_n 1)), (17, av_q (.imul)), (18, av_q (.iload_n 3)), (19, av_q (.iadd)), (20, av_q (.iaload)), (21, av_q (.iconst 1)), (22, av_qa (.if_icmp .le 6) 28), (25, av_q (.bipush (-2))), (27, av_q (.ireturn)), (28, av_q (.aload_n 0)), (29, av_q (.iload_n 2)), (30, av_q (.iconst 0)), (31, av_qc (.invokevirtual 348) 159 2 0 8), (34, av_q (.aload_n 0)), (35, av_q (.iload_n 1)), (36, av_qc (.invokevirtual 440) 185 1 0 8), (39, av_q (.aload_n 0)), (40, av_qf (.getfield 75) 8 32 2), (43, av_q (.iload_n 3)), (44, av_q (.iconst 2)), (45, av_q (.iastore)), (46, av_q (.aload_n 0)), (47, av_qc (.invokevirtual 479) 209 0 0 8), (50, av_q (.ireturn))]
def cd_212 : List (Nat × av_E) := [(0, av_q (.aload_n 0)), (1, av_q (.iload_n 1)), (2, av_q (.iload_n 2)), (3, av_q (.iload_n 3)), (4, av_qc (.invokevirtual 476) 210 3 0 8), (7, av_qa (.ifCond .ne 6) 13), (10, av_q (.bipush (-2))), (12, av_q (.ireturn)), (13, av_q (.aload_n 0)), (14, av_q (.iload_n 2)), (15, av_q (.iconst 0)), (16, av_qc (.invokevirtual 348) 159 2 0 8), (19, av_q (.aload_n 0)), (20, av_q (.iload_n 1)), (21, av_qc (.invokevirtual 440) 185 1 0 8), (24, av_q (.aload_n 0)), (25, av_qf (.getfield 75) 8 32 2), (28, av_q (.iload_n 3)), (29, av_q (.iconst 0)), (30, av_q (.iastore)), (31, av_q (.aload_n 0)), (32, av_qf (.getfield 72) 8 31 2), (35, av_q (.iload_n 3)), (36, av_q (.iconst 1)), (37, av_q (.iastore)), (38, av_q (.iconst 1)), (39, av_q (.istore 4)), (41, av_q (.iload 4)), (43, av_q (.iconst 3)), (44, av_qa (.if_icmp .ge 33) 77), (47, av_q (.aload_n 0)), (48, av_qf (.getfield 97) 8 39 2), (51, av_q (.iconst 3)), (52, av_q (.iload_n 3)), (53, av_q (.imul)), (54, av_q (.iload 4)), (56, av_q (.iadd)), (57, av_q (.iconst 0)), (58, av_q (.iastore)), (59, av_q (.aload_n 0)), (60, av_qf (.getfield 100) 8 40 2), (63, av_q (.iconst 3)), (64, av_q (.iload_n 3)), (65, av_q (.imul)), (66, av_q (.iload 4)), (68, av_q (.iadd)), (69, av_q (.iconst 0)), (70, av_q (.iastore)), (71, av_q (.iinc 4 1)), (74, av_qa (.goto (-33)) 41), (77, av_q (.aload_n 0)), (78, av_qc (.invokevirtual 479) 209 0 0 8), (81, av_q (.ireturn))]
def cd_213 : List (Nat × av_E) := [(0, av_q (.aload_n 0)), (1, av_qf (.getfield 7) 8 0 2), (4, av_q (.iload_n 2)), (5, av_q (.aload_n 0)), (6, av_qf (.getfield 7) 8 0 2), (9, av_q (.iload_n 1)), (10, av_q (.iaload)), (11, av_q (.iastore)), (12, av_q (.aload_n 0)), (13, av_qf (.getfield 13) 8 1 2), (16, av_q (.iload_n 2)), (17, av_q (.aload_n 0)), (18, av_qf (.getfield 13) 8 1 2), (21, av_q (.iload_n 1)), (22, av_q (.iaload)), (23, av_q (.iastore)), (24, av_q (.aload_n 0)), (25, av_qf (.getfield 16) 8 2 2), (28, av_q (.iload_n 2)), (29, av_q (.aload_n 0)), (30, av_qf (.getfield 16) 8 2 2), (33, av_q (.iload_n 1)), (34, av_q (.iaload)), (35, av_q (.iastore)), (36, av_q (.iconst 0)), (37, av_q (.istore_n 3)), (38, av_q (.iload_n 3)), (39, av_q (.bipush 16)), (41, av_qa (.if_icmp .ge 31) 72), (44, av_q (.aload_n 0)), (45, av_qf (.getfield 19) 8 3 2), (48, av_q (.bipush 16)), (50, av_q (.iload_n 2)), (51, av_q (.imul)), (52, av_q (.iload_n 3)), (53, av_q (.iadd)), (54, av_q (.aload_n 0)), (55, av_qf (.getfield 19) 8 3 2), (58, av_q (.bipush 16)), (60, av_q (.iload_n 1)), (61, av_q (.imul)), (62, av_q (.iload_n 3)), (63, av_q (.iadd)), (64, av_q (.iaload)), (65, av_q (.iastore)), (66, av_q (.iinc 3 1)), (69, av_qa (.goto (-31)) 38), (72, av_q (.iconst 0)), (73, av_q (.istore_n 3)), (74, av_q (.iload_n 3)), (75, av_q (.sipush 192)), (78, av_qa (.if_icmp .ge 201) 279), (81, av_q (.aload_n 0)), (82, av_qf (.getfield 22) 8 4 2), (85, av_q (.sipush 192)), (88, av_q (.iload_n 2)), (89, av_q (.imul)), (90, av_q (.iload_n 3)), (91, av_q (.iadd)), (92, av_q (.aload_n 0)), (93, av_qf (.getfield 22) 8 4 2), (96, av_q (.sipush 192)), (99, av_q (.iload_n 1)), (100, av_q (.imul)), (101, av_q (.iload_n 3)), (102, av_q (.iadd)), (103, av_q (.iaload)), (104, av_q (.iastore)), (105, av_q (.aload_n 0)), (106, av_qf (.getfield 25) 8 5 2), (109, av_q (.sipush 192)), (112, av_q (.iload_n 2)), (113, av_q (.imul)), (114, av_q (.iload_n 3)), (115, av_q (.iadd)), (116, av_q (.aload_n 0)), (117, av_qf (.getfield 25) 8 5 2), (120, av_q (.sipush 192)), (123, av_q (.iload_n 1)), (124, av_q (.imul)), (125, av_q (.iload_n 3)), (126, av_q (.iadd)), (127, av_q (.iaload)), (128, av_q (.iastore)), (129, av_q (.aload_n 0)), (130, av_qf (.getfield 28) 8 6 2), (133, av_q (.sipush 192)), (136, av_q (.iload_n 2)), (137, av_q (.imul)), (138, av_q (.iload_n 3)), (139, av_q (.iadd)), (140, av_q (.aload_n 0)), (141, av_qf (.getfield 28) 8 6 2), (144, av_q (.sipush 192)), (147, av_q (.iload_n 1)), (148, av_q (.imul)), (149, av_q (.iload_n 3)), (150, av_q (.iadd)), (151, av_q (.iaload)), (152, av_q (.iastore)), (153, av_q (.aload_n 0)), (154, av_qf (.getfield 31) 8 7 2), (157, av_q (.sipush 192)), (160, av_q (.iload_n 2)), (161, av_q (.imul)), (162, av_q (.iload_n 3)), (163, av_q (.iadd)), (164, av_q (.aload_n 0)), (165, av_qf (.getfield 31) 8 7 2), (168, av_q (.sipush 192)), (171, av_q (.iload_n 1)), (172, av_q (.imul)), (173, av_q (.iload_n 3)), (174, av_q (.iadd)), (175, av_q (.iaload)), (176, av_q (.iastore)), (177, av_q (.aload_n 0)), (178, av_qf (.getfield 34) 8 8 2), (181, av_q (.sipush 192)), (184, av_q (.iload_n 2)), (185, av_q (.imul)), (186, av_q (.iload_n 3)), (187, av_q (.iadd)), (188, av_q (.aload_n 0)), (189, av_qf (.getfield 34) 8 8 2), (192, av_q (.sipush 192)), (195, av_q (.iload_n 1)), (196, av_q (.imul)), (197, av_q (.iload_n 3)), (198, av_q (.iadd)), (199, av_q (.iaload)), (200, av_q (.iastore)), (201, av_q (.aload_n 0)), (202, av_qf (.getfield 37) 8 9 2), (205, av_q (.sipush 192)), (208, av_q (.iload_n 2)), (209, av_q (.imul)), (210, av_q (.iload_n 3)), (211, av_q (.iadd)), (212, av_q (.aload_n 0)), (213, av_qf (.getfield 37) 8 9 2), (216, av_q (.sipush 192)), (219, av_q (.iload_n 1)), (220, av_q (.imul)), (221, av_q (.iload_n 3)), (222, av_q (.iadd)), (223, av_q (.iaload)), (224, av_q (.iastore)), (225, av_q (.aload_n 0)), (226, av_qf (.getfield 40) 8 10 2), (229, av_q (.sipush 192)), (232, av_q (.iload_n 2)), (233, av_q (.imul)), (234, av_q (.iload_n 3)), (235, av_q (.iadd)), (236, av_q (.aload_n 0)), (237, av_qf (.getfield 40) 8 10 2), (240, av_q (.sipush 192)), (243, av_q (.iload_n 1)), (244, av_q (.imul)), (245, av_q (.iload_n 3)), (246, av_q (.iadd)), (247, av_q (.iaload)), (248, av_q (.iastore)), (249, av_q (.aload_n 0)), (250, av_qf (.getfield 43) 8 11 2), (253, av_q (.sipush 192)), (256, av_q (.iload_n 2)), (257, av_q (.imul)), (258, av_q (.iload_n 3)), (259, av_q (.iadd)), (260, av_q (.aload_n 0)), (261, av_qf (.getfield 43) 8 11 2), (264, av_q (.sipush 192)), (267, av_q (.iload_n 1)), (268, av_q (.imul)), (269, av_q (.iload_n 3)), (270, av_q (.iadd)), (271, av_q (.iaload)), (272, av_q (.iastore)), (273, av_q (.iinc 3 1)), (276, av_qa (.goto (-202)) 74), (279, av_q (.iconst 0)), (280, av_q (.istore_n 3)), (281, av_q (.iload_n 3)), (282, av_q (.sipush 960)), (285, av_qa (.if_icmp .ge 33) 318), (288, av_q (.aload_n 0)), (289, av_qf (.getfield 46) 8 12 2), (292, av_q (.sipush 960)), (295, av_q (.iload_n 2)), (296, av_q (.imul)), (297, av_q (.iload_n 3)), (298, av_q (.iadd)), (299, av_q (.aload_n 0)), (300, av_qf (.getfield 46) 8 12 2), (303, av_q (.sipush 960)), (306, av_q (.iload_n 1)), (307, av_q (.imul)), (308, av_q (.iload_n 3)), (309, av_q (.iadd)), (310, av_q (.iaload)), (311, av_q (.iastore)), (312, av_q (.iinc 3 1)), (315, av_qa (.goto (-34)) 281), (318, av_q (.iconst 0)), (319, av_q (.istore_n 3)), (320, av_q (.iload_n 3)), (321, av_q (.sipush 576)), (324, av_qa (.if_icmp .ge 57) 381), (327, av_q (.aload_n 0)), (328, av_qf (.getfield 49) 8 13 2), (331, av_q (.sipush 576)), (334, av_q (.iload_n 2)), (335, av_q (.imul)), (336, av_q (.iload_n 3)), (337, av_q (.iadd)), (338, av_q (.aload_n 0)), (339, av_qf (.getfield 49) 8 13 2), (342, av_q (.sipush 576)), (345, av_q (.iload_n 1)), (346, av_q (.imul)), (347, av_q (.iload_n 3)), (348, av_q (.iadd)), (349, av_q (.iaload)), (350, av_q (.iastore)), (351, av_q (.aload_n 0)), (352, av_qf (.getfield 52) 8 14 2), (355, av_q (.sipush 576)), (358, av_q (.iload_n 2)), (359, av_q (.imul)), (360, av_q (.iload_n 3)), (361, av_q (.iadd)), (362, av_q (.aload_n 0)), (363, av_qf (.getfield 52) 8 14 2), (366, av_q (.sipush 576)), (369, av_q (.iload_n 1)), (370, av_q (.imul)), (371, av_q (.iload_n 3)), (372, av_q (.iadd)), (373, av_q (.iaload)), (374, av_q (.iastore)), (375, av_q (.iinc 3 1)), (378, av_qa (.goto (-58)) 320), (381, av_q (.iconst 0)), (382, av_q (.istore_n 3)), (383, av_q (.iload_n 3)), (384, av_q (.sipush 196)), (387, av_qa (.if_icmp .ge 33) 420), (390, av_q (.aload_n 0)), (391, av_qf (.getfield 55) 8 15 2), (394, av_q (.sipush 196)), (397, av_q (.iload_n 2)), (398, av_q (.imul)), (399, av_q (.iload_n 3)), (400, av_q (.iadd)), (401, av_q (.aload_n 0)), (402, av_qf (.getfield 55) 8 15 2), (405, av_q (.sipush 196)), (408, av_q (.iload_n 1)), (409, av_q (.imul)), (410, av_q (.iload_n 3)), (411, av_q (.iadd)), (412, av_q (.iaload)), (413, av_q (.iastore)), (414, av_q (.iinc 3 1)), (417, av_qa (.goto (-34)) 383), (420, av_q (.return_))]
def cd_214 : List (Nat × av_E) := [(0, av_q (.aload_n 0)), (1, av_qf (.getfield 482) 8 62 0), (4, av_q (.iconst 4)), (5, av_qa (.if_icmp .ne 5) 10), (8, av_q (.iconst (-1))), (9, av_q (.ireturn)), (10, av_q (.aload_n 0)), (11, av_q (.iconst 0)), (12, av_q (.aload_n 0)), (13, av_qf (.getfield 482) 8 62 0), (16, av_q (.iconst 1)), (17, av_q (.iadd)), (18, av_qc (.invokevirtual 485) 213 2 0 8), (21, av_q (.aload_n 0)), (22, av_q (.dup)), (23, av_qf (.getfield 482) 8 62 0), (26, av_q (.iconst 1)), (27, av_q (.iadd)), (28, av_qf (.putfield 482) 8 62 0), (31, av_q (.aload_n 0)), (32, av_qf (.getfield 482) 8 62 0), (35, av_q (.iconst 1)), (36, av_q (.isub)), (37, av_q (.ireturn))]
def cd_215 : List (Nat × av_E) := [(0, av_q (.iload_n 1)), (1, av_q (.iconst 0)), (2, av_q (.aload_n 0)), (3, av_qf (.getfield 482) 8 62 0), (6, av_q (.iconst 1)), (7, av_q (.isub)), (8, av_qc (.invokestatic 176) 127 3 2 8), (11, av_qa (.ifCond .ne 5) 16), (14, av_q (.iconst 0)), (15, av_qa (.ireturn) 1), (16, av_q (.aload_n 0)), (17, av_q (.iload_n 1)), (18, av_q (.iconst 1)), (19, av_q (.iadd)), (20, av_q (.iconst 0)), (21, av_qc (.invokevirtual 485) 213 2 0 8), (24, av_q (.iconst 1)), (25, av_qa (.ireturn) 1)]
def cd_216 : List (Nat × av_E) := [(0, av_q (.iconst 0)), (1, av_q (.istore_n 1)), (2, av_q (.iconst 0)), (3, av_q (.istore_n 2)), (4, av_q (.iload_n 2)), (5, av_q (.aload_n 0)), (6, av_qf (.getfield 7) 8 0 2), (9, av_q (.iconst 0)), (10, av_q (.iaload)), (11, av_qa (.if_icmp .ge 18) 29), (14, av_q (.iload_n 1)), (15, av_q (.aload_n 0)), (16, av_qf (.getfield 19) 8 3 2), (19, av_q (.iload_n 2)), (20, av_q (.iaload)), (21, av_q (.iadd)), (22, av_q (.istore_n 1)), (23, av_q (.iinc 2 1)), (26, av_qa (.goto (-22)) 4), (29, av_q (.iload_n 1)), (30, av_q (.ireturn))]
def cd_217 : List (Nat × av_E) := [(0, av_q (.iload_n 1)), (1, av_qw (.tableswitch 75 0 5 #[39, 46, 53, 60, 65, 70]) 39), (40, av_q (.aload_n 0)), (41, av_qf (.getfield 7) 8 0 2), (44, av_q (.iconst 0)), (45, av_q (.iaload)), (46, av_q (.ireturn)), (47, av_q (.aload_n 0)), (48, av_qf (.getfield 13) 8 1 2), (51, av_q (.iconst 0)), (52, av_q (.iaload)), (53, av_q (.ireturn)), (54, av_q (.aload_n 0)), (55, av_qf (.getfield 16) 8 2 2), (58, av_q (.iconst 0)), (59, av_q (.iaload)), (60, av_q (.ireturn)), (61, av_q (.aload_n 0)), (62, av_qf (.getfield 148) 8 17 0), (65, av_q (.ireturn)), (66, av_q (.aload_n 0)), (67, av_qc (.invokevirtual 488) 216 0 0 8), (70, av_q (.ireturn)), (71, av_q (.aload_n 0)), (72, av_qf (.getfield 482) 8 62 0), (75, av_q (.ireturn)), (76, av_q (.iconst (-1))), (77, av_q (.ireturn))]
def cd_218 : List (Nat × av_E) := [(0, av_q (.iload_n 0)), (1, av_q (.iload_n 0)), (2, av_q (.iconst 1)), (3, av_q (.iushr)), (4, av_qk (.ldc_w 265) (1431655765)), (7, av_q (.iand)), (8, av_q (.isub)), (9, av_q (.istore_n 0)), (10, av_q (.iload_n 0)), (11, av_qk (.ldc_w 266) (858993459)), (14, av_q (.iand)), (15, av_q (.iload_n 0)), (16, av_q (.iconst 2)), (17, av_q (.iushr)), (18, av_qk (.ldc_w 266) (858993459)), (21, av_q (.iand)), (22, av_q (.iadd)), (23, av_q (.istore_n 0)), (24, av_q (.iload_n 0)), (25, av_q (.iload_n 0)), (26, av_q (.iconst 4)), (27, av_q (.iushr)), (28, av_q (.iadd)), (29, av_qk (.ldc_w 267) (252645135)), (32, av_q (.iand)), (33, av_q (.istore_n 0)), (34, av_q (.iload_n 0)), (35, av_q (.iload_n 0)), (36, av_q (.bipush 8)), (38, av_q (.iushr)), (39, av_q (.iadd)), (40, av_q (.istore_n 0)), (41, av_q (.iload_n 0)), (42, av_q (.iload_n 0)), (43, av_q (.bipush 16)), (45, av_q (.iushr)), (46, av_q (.iadd)), (47, av_q (.istore_n 0)), (48, av_q (.iload_n 0)), (49, av_q (.bipush 63)), (51, av_q (.iand)), (52, av_q (.ireturn))]
def cd_219 : List (Nat × av_E) := [(0, av_q (.iload_n 1)), (1, av_q (.iload_n 2)), (2, av_qa (.if_icmp .le 44) 46), (46, av_q (.iload_n 1)), (47, av_qa (.ifCond .ge 12) 59), (59, av_q (.iload_n 2)), (60, av_q (.iload_n 0)), (61, av_qa (.if_icmp .le 12) 73), (73, av_q (.return_))]
def cd_220 : List (Nat × av_E) := [(0, av_q (.iconst 0)), (1, av_q (.istore_n 2)), (2, av_q (.aload_n 0)), (3, av_q (.arraylength)), (4, av_q (.istore_n 3)), (5, av_q (.iload_n 2)), (6, av_q (.iload_n 3)), (7, av_qa (.if_icmp .ge 13) 20), (10, av_q (.aload_n 0)), (11, av_q (.iload_n 2)), (12, av_q (.iload_n 1)), (13, av_q (.iastore)), (14, av_q (.iinc 2 1)), (17, av_qa (.goto (-12)) 5), (20, av_q (.return_))]
def cd_221 : List (Nat × av_E) := [(0, av_q (.aload_n 0)), (1, av_q (.arraylength)), (2, av_q (.iload_n 1)), (3, av_q (.iload_n 2)), (4, av_qc (.invokestatic 13) 219 3 2 10), (7, av_q (.iload_n 1)), (8, av_q (.istore 4)), (10, av_q (.iload 4)), (12, av_q (.iload_n 2)), (13, av_qa (.if_icmp .ge 14) 27), (16, av_q (.aload_n 0)), (17, av_q (.iload 4)), (19, av_q (.iload_n 3)), (20, av_q (.iastore)), (21, av_q (.iinc 4 1)), (24, av_qa (.goto (-14)) 10), (27, av_q (.return_))]
def cd_222 : List (Nat × av_E) := [(0, av_q (.iload_n 1)), (1, av_q (.aload_n 0)), (2, av_q (.arraylength)), (3, av_qa (.if_icmp .ne 11) 14), (6, av_q (.aload_n 0)), (7, av_qa (.invokevirtual 316) 1004), (10, av_q (.checkcast 317)), (13, av_q (.areturn)), (14, av_q (.iload_n 1)), (15, av_q (.newarray .int)), (17, av_q (.astore_n 2)), (18, av_q (.aload_n 0)), (19, av_q (.iconst 0)), (20, av_q (.aload_n 2)), (21, av_q (.iconst 0)), (22, av_q (.aload_n 0)), (23, av_q (.arraylength)), (24, av_q (.iload_n 1)), (25, av_qa (.invokestatic 304) 1002), (28, av_qa (.invokestatic 150) 1003), (31, av_q (.aload_n 2)), (32, av_q (.areturn))]
def cd_L : List (Nat × av_E) := [(0, av_qa (.new 7) 7), (3, av_q (.dup)), (4, av_qc (.invokespecial 9) 93 0 1 7), (7, av_q (.astore_n 1)), (8, av_qa (.new 10) 8), (11, av_q (.dup)), (12, av_qc (.invokespecial 12) 126 0 1 8), (15, av_q (.astore_n 2)), (16, av_q (.iconst 0)), (17, av_q (.istore_n 3)), (18, av_q (.iload_n 3)), (19, av_q (.aload_n 0)), (20, av_q (.arraylength)), (21, av_q (.bipush 6)), (23, av_q (.isub)), (24, av_qa (.if_icmp .gt 1266) 1290), (27, av_q (.aload_n 0)), (28, av_q (.iload_n 3)), (29, av_q (.iaload)), (30, av_q (.bipush 31)), (32, av_q (.iand)), (33, av_qw (.tableswitch 1251 0 27 #[127, 190, 213, 246, 269, 292, 305, 348, 381, 434, 467, 520, 583, 626, 669, 702, 755, 818, 871, 904, 927, 980, 1043, 1106, 1149, 1192, 1205, 1228]) 127), (160, av_q (.aload_n 1)), (161, av_q (.aload_n 0)), (162, av_q (.iload_n 3)), (163, av_q (.iconst 1)), (164, av_q (.iadd)), (165, av_q (.iaload)), (166, av_q (.aload_n 0)), (167, av_q (.iload_n 3)), (168, av_q (.iconst 2)), (169, av_q (.iadd)), (170, av_q (.iaload)), (171, av_q (.aload_n 0)), (172, av_q (.iload_n 3)), (173, av_q (.iconst 3)), (174, av_q (.iadd)), (175, av_q (.iaload)), (176, av_q (.aload_n 0)), (177, av_q (.iload_n 3)), (178, av_q (.iconst 4)), (179, av_q (.iadd)), (180, av_q (.iaload)), (181, av_q (.aload_n 0)), (182, av_q (.iload_n 3)), (183, av_q (.iconst 5)), (184, av_q (.iadd)), (185, av_q (.iaload)), (186, av_qc (.invokevirtual 13) 94 5 0 7), (189, av_q (.aload_n 2)), (190, av_q (.aload_n 0)), (191, av_q (.iload_n 3)), (192, av_q (.iconst 1)), (193, av_q (.iadd)), (194, av_q (.iaload)), (195, av_q (.aload_n 0)), (196, av_q (.iload_n 3)), (197, av_q (.iconst 2)), (198, av_q (.iadd)), (199, av_q (.iaload)), (200, av_q (.aload_n 0)), (201, av_q (.iload_n 3)), (202, av_q (.iconst 3)), (203, av_q (.iadd)), (204, av_q (.iaload)), (205, av_q (.aload_n 0)), (206, av_q (.iload_n 3)), (207, av_q (.iconst 4)), (208, av_q (.iadd)), (209, av_q (.iaload)), (210, av_q (.aload_n 0)), (211, av_q (.iload_n 3)), (212, av_q (.iconst 5)), (213, av_q (.iadd)), (214, av_q (.iaload)), (215, av_qc (.invokevirtual 17) 128 5 0 8), (218, av_qa (.if_icmp .eq 1066) 1284), (221, av_q (.iconst 0)), (222, av_qa (.ireturn) 1), (223, av_q (.aload_n 1)), (224, av_q (.aload_n 0)), (225, av_q (.iload_n 3)), (226, av_q (.iconst 1)), (227, av_q (.iadd)), (228, av_q (.iaload)), (229, av_qc (.invokevirtual 18) 95 1 0 7), (232, av_q (.aload_n 2)), (233, av_q (.aload_n 0)), (234, av_q (.iload_n 3)), (235, av_q (.iconst 1)), (236, av_q (.iadd)), (237, av_q (.iaload)), (238, av_qc (.invokevirtual 22) 148 1 0 8), (241, av_qa (.if_icmp .eq 1043) 1284), (244, av_q (.iconst 0)), (245, av_qa (.ireturn) 1), (246, av_q (.aload_n 1)), (247, av_q (.aload_n 0)), (248, av_q (.iload_n 3)), (249, av_q (.iconst 1)), (250, av_q (.iadd)), (251, av_q (.iaload)), (252, av_q (.aload_n 0)), (253, av_q (.iload_n 3)), (254, av_q (.iconst 2)), (255, av_q (.iadd)), (256, av_q (.iaload)), (257, av_qc (.invokevirtual 23) 96 2 0 7), (260, av_q (.aload_n 2)), (261, av_q (.aload_n 0)), (262, av_q (.iload_n 3)), (263, av_q (.iconst 1)), (264, av_q (.iadd)), (265, av_q (.iaload)), (266, av_q (.aload_n 0)), (267, av_q (.iload_n 3)), (268, av_q (.iconst 2)), (269, av_q (.iadd)), (270, av_q (.iaload)), (271, av_qc (.invokevirtual 27) 151 2 0 8), (274, av_qa (.if_icmp .eq 1010) 1284), (277, av_q (.iconst 0)), (278, av_qa (.ireturn) 1), (279, av_q (.aload_n 1)), (280, av_q (.aload_n 0)), (281, av_q (.iload_n 3)), (282, av_q (.iconst 1)), (283, av_q (.iadd)), (284, av_q (.iaload)), (285, av_qc (.invokevirtual 28) 97 1 0 7), (288, av_q (.aload_n 2)), (289, av_q (.aload_n 0)), (290, av_q (.iload_n 3)), (291, av_q (.iconst 1)), (292, av_q (.iadd)), (293, av_q (.iaload)), (294, av_qc (.invokevirtual 31) 156 1 0 8), (297, av_qa (.if_icmp .eq 987) 1284), (300, av_q (.iconst 0)), (301, av_qa (.ireturn) 1), (302, av_q (.aload_n 1)), (303, av_q (.aload_n 0)), (304, av_q (.iload_n 3)), (305, av_q (.iconst 1)), (306, av_q (.iadd)), (307, av_q (.iaload)), (308, av_qc (.invokevirtual 32) 98 1 0 7), (311, av_q (.aload_n 2)), (312, av_q (.aload_n 0)), (313, av_q (.iload_n 3)), (314, av_q (.iconst 1)), (315, av_q (.iadd)), (316, av_q (.iaload)), (317, av_qc (.invokevirtual 35) 157 1 0 8), (320, av_qa (.if_icmp .eq 964) 1284), (323, av_q (.iconst 0)), (324, av_qa (.ireturn) 1), (325, av_q (.aload_n 1)), (326, av_qc (.invokevirtual 36) 100 0 0 7), (329, av_q (.aload_n 2)), (330, av_qc (.invokevirtual 40) 158 0 0 8), (333, av_qa (.if_icmp .eq 951) 1284), (336, av_q (.iconst 0)), (337, av_qa (.ireturn) 1), (338, av_q (.aload_n 1)), (339, av_q (.aload_n 0)), (340, av_q (.iload_n 3)), (341, av_q (.iconst 1)), (342, av_q (.iadd)), (343, av_q (.iaload)), (344, av_q (.aload_n 0)), (345, av_q (.iload_n 3)), (346, av_q (.iconst 2)), (347, av_q (.iadd)), (348, av_q (.iaload)), (349, av_q (.aload_n 0)), (350, av_q (.iload_n 3)), (351, av_q (.iconst 3)), (352, av_q (.iadd)), (353, av_q (.iaload)), (354, av_qc (.invokevirtual 41) 101 3 0 7), (357, av_q (.aload_n 2)), (358, av_q (.aload_n 0)), (359, av_q (.iload_n 3)), (360, av_q (.iconst 1)), (361, av_q (.iadd)), (362, av_q (.iaload)), (363, av_q (.aload_n 0)), (364, av_q (.iload_n 3)), (365, av_q (.iconst 2)), (366, av_q (.iadd)), (367, av_q (.iaload)), (368, av_q (.aload_n 0)), (369, av_q (.iload_n 3)), (370, av_q (.iconst 3)), (371, av_q (.iadd)), (372, av_q (.iaload)), (373, av_qc (.invokevirtual 45) 161 3 0 8), (376, av_qa (.if_icmp .eq 908) 1284), (379, av_q (.iconst 0)), (380, av_qa (.ireturn) 1), (381, av_q (.aload_n 1)), (382, av_q (.aload_n 0)), (383, av_q (.iload_n 3)), (384, av_q (.iconst 1)), (385, av_q (.iadd)), (386, av_q (.iaload)), (387, av_q (.aload_n 0)), (388, av_q (.iload_n 3)), (389, av_q (.iconst 2)), (390, av_q (.iadd)), (391, av_q (.iaload)), (392, av_qc (.invokevirtual 46) 103 2 0 7), (395, av_q (.aload_n 2)), (396, av_q (.aload_n 0)), (397, av_q (.iload_n 3)), (398, av_q (.iconst 1)), (399, av_q (.iadd)), (400, av_q (.iaload)), (401, av_q (.aload_n 0)), (402, av_q (.iload_n 3)), (403, av_q (.iconst 2)), (404, av_q (.iadd)), (405, av_q (.iaload)), (406, av_qc (.invokevirtual 49) 187 2 0 8), (409, av_qa (.if_icmp .eq 875) 1284), (412, av_q (.iconst 0)), (413, av_qa (.ireturn) 1), (414, av_q (.aload_n 1)), (415, av_q (.aload_n 0)), (416, av_q (.iload_n 3)), (417, av_q (.iconst 1)), (418, av_q (.iadd)), (419, av_q (.iaload)), (420, av_q (.aload_n 0)), (421, av_q (.iload_n 3)), (422, av_q (.iconst 2)), (423, av_q (.iadd)), (424, av_q (.iaload)), (425, av_q (.aload_n 0)), (426, av_q (.iload_n 3)), (427, av_q (.iconst 3)), (428, av_q (.iadd)), (429, av_q (.iaload)), (430, av_q (.aload_n 0)), (431, av_q (.iload_n 3)), (432, av_q (.iconst 4)), (433, av_q (.iadd)), (434, av_q (.iaload)), (435, av_qc (.invokevirtual 50) 104 4 0 7), (438, av_q (.aload_n 2)), (439, av_q (.aload_n 0)), (440, av_q (.iload_n 3)), (441, av_q (.iconst 1)), (442, av_q (.iadd)), (443, av_q (.iaload)), (444, av_q (.aload_n 0)), (445, av_q (.iload_n 3)), (446, av_q (.iconst 2)), (447, av_q (.iadd)), (448, av_q (.iaload)), (449, av_q (.aload_n 0)), (450, av_q (.iload_n 3)), (451, av_q (.iconst 3)), (452, av_q (.iadd)), (453, av_q (.iaload)), (454, av_q (.aload_n 0)), (455, av_q (.iload_n 3)), (456, av_q (.iconst 4)), (457, av_q (.iadd)), (458, av_q (.iaload)), (459, av_qc (.invokevirtual 54) 189 4 0 8), (462, av_qa (.if_icmp .eq 822) 1284), (465, av_q (.iconst 0)), (466, av_qa (.ireturn) 1), (467, av_q (.aload_n 1)), (468, av_q (.aload_n 0)), (469, av_q (.iload_n 3)), (470, av_q (.iconst 1)), (471, av_q (.iadd)), (472, av_q (.iaload)), (473, av_q (.aload_n 0)), (474, av_q (.iload_n 3)), (475, av_q (.iconst 2)), (476, av_q (.iadd)), (477, av_q (.iaload)), (478, av_qc (.invokevirtual 55) 105 2 0 7), (481, av_q (.aload_n 2)), (482, av_q (.aload_n 0)), (483, av_q (.iload_n 3)), (484, av_q (.iconst 1)), (485, av_q (.iadd)), (486, av_q (.iaload)), (487, av_q (.aload_n 0)), (488, av_q (.iload_n 3)), (489, av_q (.iconst 2)), (490, av_q (.iadd)), (491, av_q (.iaload)), (492, av_qc (.invokevirtual 58) 160 2 0 8), (495, av_qa (.if_icmp .eq 789) 1284), (498, av_q (.iconst 0)), (499, av_qa (.ireturn) 1), (500, av_q (.aload_n 1)), (501, av_q (.aload_n 0)), (502, av_q (.iload_n 3)), (503, av_q (.iconst 1)), (504, av_q (.iadd)), (505, av_q (.iaload)), (506, av_q (.aload_n 0)), (507, av_q (.iload_n 3)), (508, av_q (.iconst 2)), (509, av_q (.iadd)), (510, av_q (.iaload)), (511, av_q (.aload_n 0)), (512, av_q (.iload_n 3)), (513, av_q (.iconst 3)), (514, av_q (.iadd)), (515, av_q (.iaload)), (516, av_q (.aload_n 0)), (517, av_q (.iload_n 3)), (518, av_q (.iconst 4)), (519, av_q (.iadd)), (520, av_q (.iaload)), (521, av_qc (.invokevirtual 59) 106 4 0 7), (524, av_q (.aload_n 2)), (525, av_q (.aload_n 0)), (526, av_q (.iload_n 3)), (527, av_q (.iconst 1)), (528, av_q (.iadd)), (529, av_q (.iaload)), (530, av_q (.aload_n 0)), (531, av_q (.iload_n 3)), (532, av_q (.iconst 2)), (533, av_q (.iadd)), (534, av_q (.iaload)), (535, av_q (.aload_n 0)), (536, av_q (.iload_n 3)), (537, av_q (.iconst 3)), (538, av_q (.iadd)), (539, av_q (.iaload)), (540, av_q (.aload_n 0)), (541, av_q (.iload_n 3)), (542, av_q (.iconst 4)), (543, av_q (.iadd)), (544, av_q (.iaload)), (545, av_qc (.invokevirtual 62) 190 4 0 8), (548, av_qa (.if_icmp .eq 736) 1284), (551, av_q (.iconst 0)), (552, av_qa (.ireturn) 1), (553, av_q (.aload_n 1)), (554, av_q (.aload_n 0)), (555, av_q (.iload_n 3)), (556, av_q (.iconst 1)), (557, av_q (.iadd)), (558, av_q (.iaload)), (559, av_q (.aload_n 0)), (560, av_q (.iload_n 3)), (561, av_q (.iconst 2)), (562, av_q (.iadd)), (563, av_q (.iaload)), (564, av_q (.aload_n 0)), (565, av_q (.iload_n 3)), (566, av_q (.iconst 3)), (567, av_q (.iadd)), (568, av_q (.iaload)), (569, av_q (.aload_n 0)), (570, av_q (.iload_n 3)), (571, av_q (.iconst 4)), (572, av_q (.iadd)), (573, av_q (.iaload)), (574, av_q (.aload_n 0)), (575, av_q (.iload_n 3)), (576, av_q (.iconst 5)), (577, av_q (.iadd)), (578, av_q (.iaload)), (579, av_qc (.invokevirtual 63) 107 5 0 7), (582, av_q (.aload_n 2)), (583, av_q (.aload_n 0)), (584, av_q (.iload_n 3)), (585, av_q (.iconst 1)), (586, av_q (.iadd)), (587, av_q (.iaload)), (588, av_q (.aload_n 0)), (589, av_q (.iload_n 3)), (590, av_q (.iconst 2)), (591, av_q (.iadd)), (592, av_q (.iaload)), (593, av_q (.aload_n 0)), (594, av_q (.iload_n 3)), (595, av_q (.iconst 3)), (596, av_q (.iadd)), (597, av_q (.iaload)), (598, av_q (.aload_n 0)), (599, av_q (.iload_n 3)), (600, av_q (.iconst 4)), (601, av_q (.iadd)), (602, av_q (.iaload)), (603, av_q (.aload_n 0)), (604, av_q (.iload_n 3)), (605, av_q (.iconst 5)), (606, av_q (.iadd)), (607, av_q (.iaload)), (608, av_qc (.invokevirtual 66) 191 5 0 8), (611, av_qa (.if_icmp .eq 673) 1284), (614, av_q (.iconst 0)), (615, av_qa (.ireturn) 1), (616, av_q (.aload_n 1)), (617, av_q (.aload_n 0)), (618, av_q (.iload_n 3)), (619, av_q (.iconst 1)), (620, av_q (.iadd)), (621, av_q (.iaload)), (622, av_q (.aload_n 0)), (623, av_q (.iload_n 3)), (624, av_q (.iconst 2)), (625, av_q (.iadd)), (626, av_q (.iaload)), (627, av_q (.aload_n 0)), (628, av_q (.iload_n 3)), (629, av_q (.iconst 3)), (630, av_q (.iadd)), (631, av_q (.iaload)), (632, av_qc (.invokevirtual 67) 108 3 0 7), (635, av_q (.aload_n 2)), (636, av_q (.aload_n 0)), (637, av_q (.iload_n 3)), (638, av_q (.iconst 1)), (639, av_q (.iadd)), (640, av_q (.iaload)), (641, av_q (.aload_n 0)), (642, av_q (.iload_n 3)), (643, av_q (.iconst 2)), (644, av_q (.iadd)), (645, av_q (.iaload)), (646, av_q (.aload_n 0)), (647, av_q (.iload_n 3)), (648, av_q (.iconst 3)), (649, av_q (.iadd)), (650, av_q (.iaload)), (651, av_qc (.invokevirtual 70) 192 3 0 8), (654, av_qa (.if_icmp .eq 630) 1284), (657, av_q (.iconst 0)), (658, av_qa (.ireturn) 1), (659, av_q (.aload_n 1)), (660, av_q (.aload_n 0)), (661, av_q (.iload_n 3)), (662, av_q (.iconst 1)), (663, av_q (.iadd)), (664, av_q (.iaload)), (665, av_q (.aload_n 0)), (666, av_q (.iload_n 3)), (667, av_q (.iconst 2)), (668, av_q (.iadd)), (669, av_q (.iaload)), (670, av_q (.aload_n 0)), (671, av_q (.iload_n 3)), (672, av_q (.iconst 3)), (673, av_q (.iadd)), (674, av_q (.iaload)), (675, av_qc (.invokevirtual 71) 109 3 0 7), (678, av_q (.aload_n 2)), (679, av_q (.aload_n 0)), (680, av_q (.iload_n 3)), (681, av_q (.iconst 1)), (682, av_q (.iadd)), (683, av_q (.iaload)), (684, av_q (.aload_n 0)), (685, av_q (.iload_n 3)), (686, av_q (.iconst 2)), (687, av_q (.iadd)), (688, av_q (.iaload)), (689, av_q (.aload_n 0)), (690, av_q (.iload_n 3)), (691, av_q (.iconst 3)), (692, av_q (.iadd)), (693, av_q (.iaload)), (694, av_qc (.invokevirtual 74) 193 3 0 8), (697, av_qa (.if_icmp .eq 587) 1284), (700, av_q (.iconst 0)), (701, av_qa (.ireturn) 1), (702, av_q (.aload_n 1)), (703, av_q (.aload_n 0)), (704, av_q (.iload_n 3)), (705, av_q (.iconst 1)), (706, av_q (.iadd)), (707, av_q (.iaload)), (708, av_q (.aload_n 0)), (709, av_q (.iload_n 3)), (710, av_q (.iconst 2)), (711, av_q (.iadd)), (712, av_q (.iaload)), (713, av_qc (.invokevirtual 75) 110 2 0 7), (716, av_q (.aload_n 2)), (717, av_q (.aload_n 0)), (718, av_q (.iload_n 3)), (719, av_q (.iconst 1)), (720, av_q (.iadd)), (721, av_q (.iaload)), (722, av_q (.aload_n 0)), (723, av_q (.iload_n 3)), (724, av_q (.iconst 2)), (725, av_q (.iadd)), (726, av_q (.iaload)), (727, av_qc (.invokevirtual 78) 197 2 0 8), (730, av_qa (.if_icmp .eq 554) 1284), (733, av_q (.iconst 0)), (734, av_qa (.ireturn) 1), (735, av_q (.aload_n 1)), (736, av_q (.aload_n 0)), (737, av_q (.iload_n 3)), (738, av_q (.iconst 1)), (739, av_q (.iadd)), (740, av_q (.iaload)), (741, av_q (.aload_n 0)), (742, av_q (.iload_n 3)), (743, av_q (.iconst 2)), (744, av_q (.iadd)), (745, av_q (.iaload)), (746, av_q (.aload_n 0)), (747, av_q (.iload_n 3)), (748, av_q (.iconst 3)), (749, av_q (.iadd)), (750, av_q (.iaload)), (751, av_q (.aload_n 0)), (752, av_q (.iload_n 3)), (753, av_q (.iconst 4)), (754, av_q (.iadd)), (755, av_q (.iaload)), (756, av_qc (.invokevirtual 79) 111 4 0 7), (759, av_q (.aload_n 2)), (760, av_q (.aload_n 0)), (761, av_q (.iload_n 3)), (762, av_q (.iconst 1)), (763, av_q (.iadd)), (764, av_q (.iaload)), (765, av_q (.aload_n 0)), (766, av_q (.iload_n 3)), (767, av_q (.iconst 2)), (768, av_q (.iadd)), (769, av_q (.iaload)), (770, av_q (.aload_n 0)), (771, av_q (.iload_n 3)), (772, av_q (.iconst 3)), (773, av_q (.iadd)), (774, av_q (.iaload)), (775, av_q (.aload_n 0)), (776, av_q (.iload_n 3)), (777, av_q (.iconst 4)), (778, av_q (.iadd)), (779, av_q (.iaload)), (780, av_qc (.invokevirtual 82) 198 4 0 8), (783, av_qa (.if_icmp .eq 501) 1284), (786, av_q (.iconst 0)), (787, av_qa (.ireturn) 1), (788, av_q (.aload_n 1)), (789, av_q (.aload_n 0)), (790, av_q (.iload_n 3)), (791, av_q (.iconst 1)), (792, av_q (.iadd)), (793, av_q (.iaload)), (794, av_q (.aload_n 0)), (795, av_q (.iload_n 3)), (796, av_q (.iconst 2)), (797, av_q (.iadd)), (798, av_q (.iaload)), (799, av_q (.aload_n 0)), (800, av_q (.iload_n 3)), (801, av_q (.iconst 3)), (802, av_q (.iadd)), (803, av_q (.iaload)), (804, av_q (.aload_n 0)), (805, av_q (.iload_n 3)), (806, av_q (.iconst 4)), (807, av_q (.iadd)), (808, av_q (.iaload)), (809, av_q (.aload_n 0)), (810, av_q (.iload_n 3)), (811, av_q (.iconst 5)), (812, av_q (.iadd)), (813, av_q (.iaload)), (814, av_qc (.invokevirtual 83) 112 5 0 7), (817, av_q (.aload_n 2)), (818, av_q (.aload_n 0)), (819, av_q (.iload_n 3)), (820, av_q (.iconst 1)), (821, av_q (.iadd)), (822, av_q (.iaload)), (823, av_q (.aload_n 0)), (824, av_q (.iload_n 3)), (825, av_q (.iconst 2)), (826, av_q (.iadd)), (827, av_q (.iaload)), (828, av_q (.aload_n 0)), (829, av_q (.iload_n 3)), (830, av_q (.iconst 3)), (831, av_q (.iadd)), (832, av_q (.iaload)), (833, av_q (.aload_n 0)), (834, av_q (.iload_n 3)), (835, av_q (.iconst 4)), (836, av_q (.iadd)), (837, av_q (.iaload)), (838, av_q (.aload_n 0)), (839, av_q (.iload_n 3)), (840, av_q (.iconst 5)), (841, av_q (.iadd)), (842, av_q (.iaload)), (843, av_qc (.invokevirtual 86) 199 5 0 8), (846, av_qa (.if_icmp .eq 438) 1284), (849, av_q (.iconst 0)), (850, av_qa (.ireturn) 1), (851, av_q (.aload_n 1)), (852, av_q (.aload_n 0)), (853, av_q (.iload_n 3)), (854, av_q (.iconst 1)), (855, av_q (.iadd)), (856, av_q (.iaload)), (857, av_q (.aload_n 0)), (858, av_q (.iload_n 3)), (859, av_q (.iconst 2)), (860, av_q (.iadd)), (861, av_q (.iaload)), (862, av_q (.aload_n 0)), (863, av_q (.iload_n 3)), (864, av_q (.iconst 3)), (865, av_q (.iadd)), (866, av_q (.iaload)), (867, av_q (.aload_n 0)), (868, av_q (.iload_n 3)), (869, av_q (.iconst 4)), (870, av_q (.iadd)), (871, av_q (.iaload)), (872, av_qc (.invokevirtual 87) 113 4 0 7), (875, av_q (.aload_n 2)), (876, av_q (.aload_n 0)), (877, av_q (.iload_n 3)), (878, av_q (.iconst 1)), (879, av_q (.iadd)), (880, av_q (.iaload)), (881, av_q (.aload_n 0)), (882, av_q (.iload_n 3)), (883, av_q (.iconst 2)), (884, av_q (.iadd)), (885, av_q (.iaload)), (886, av_q (.aload_n 0)), (887, av_q (.iload_n 3)), (888, av_q (.iconst 3)), (889, av_q (.iadd)), (890, av_q (.iaload)), (891, av_q (.aload_n 0)), (892, av_q (.iload_n 3)), (893, av_q (.iconst 4)), (894, av_q (.iadd)), (895, av_q (.iaload)), (896, av_qc (.invokevirtual 90) 201 4 0 8), (899, av_qa (.if_icmp .eq 385) 1284), (902, av_q (.iconst 0)), (903, av_qa (.ireturn) 1), (904, av_q (.aload_n 1)), (905, av_q (.aload_n 0)), (906, av_q (.iload_n 3)), (907, av_q (.iconst 1)), (908, av_q (.iadd)), (909, av_q (.iaload)), (910, av_q (.aload_n 0)), (911, av_q (.iload_n 3)), (912, av_q (.iconst 2)), (913, av_q (.iadd)), (914, av_q (.iaload)), (915, av_qc (.invokevirtual 91) 114 2 0 7), (918, av_q (.aload_n 2)), (919, av_q (.aload_n 0)), (920, av_q (.iload_n 3)), (921, av_q (.iconst 1)), (922, av_q (.iadd)), (923, av_q (.iaload)), (924, av_q (.aload_n 0)), (925, av_q (.iload_n 3)), (926, av_q (.iconst 2)), (927, av_q (.iadd)), (928, av_q (.iaload)), (929, av_qc (.invokevirtual 94) 202 2 0 8), (932, av_qa (.if_icmp .eq 352) 1284), (935, av_q (.iconst 0)), (936, av_qa (.ireturn) 1), (937, av_q (.aload_n 1)), (938, av_q (.aload_n 0)), (939, av_q (.iload_n 3)), (940, av_q (.iconst 1)), (941, av_q (.iadd)), (942, av_q (.iaload)), (943, av_qc (.invokevirtual 95) 115 1 0 7), (946, av_q (.aload_n 2)), (947, av_q (.aload_n 0)), (948, av_q (.iload_n 3)), (949, av_q (.iconst 1)), (950, av_q (.iadd)), (951, av_q (.iaload)), (952, av_qc (.invokevirtual 98) 204 1 0 8), (955, av_qa (.if_icmp .eq 329) 1284), (958, av_q (.iconst 0)), (959, av_qa (.ireturn) 1), (960, av_q (.aload_n 1)), (961, av_q (.aload_n 0)), (962, av_q (.iload_n 3)), (963, av_q (.iconst 1)), (964, av_q (.iadd)), (965, av_q (.iaload)), (966, av_q (.aload_n 0)), (967, av_q (.iload_n 3)), (968, av_q (.iconst 2)), (969, av_q (.iadd)), (970, av_q (.iaload)), (971, av_q (.aload_n 0)), (972, av_q (.iload_n 3)), (973, av_q (.iconst 3)), (974, av_q (.iadd)), (975, av_q (.iaload)), (976, av_q (.aload_n 0)), (977, av_q (.iload_n 3)), (978, av_q (.iconst 4)), (979, av_q (.iadd)), (980, av_q (.iaload)), (981, av_qc (.invokevirtual 99) 116 4 0 7), (984, av_q (.aload_n 2)), (985, av_q (.aload_n 0)), (986, av_q (.iload_n 3)), (987, av_q (.iconst 1)), (988, av_q (.iadd)), (989, av_q (.iaload)), (990, av_q (.aload_n 0)), (991, av_q (.iload_n 3)), (992, av_q (.iconst 2)), (993, av_q (.iadd)), (994, av_q (.iaload)), (995, av_q (.aload_n 0)), (996, av_q (.iload_n 3)), (997, av_q (.iconst 3)), (998, av_q (.iadd)), (999, av_q (.iaload)), (1000, av_q (.aload_n 0)), (1001, av_q (.iload_n 3)), (1002, av_q (.iconst 4)), (1003, av_q (.iadd)), (1004, av_q (.iaload)), (1005, av_qc (.invokevirtual 102) 205 4 0 8), (1008, av_qa (.if_icmp .eq 276) 1284), (1011, av_q (.iconst 0)), (1012, av_qa (.ireturn) 1), (1013, av_q (.aload_n 1)), (1014, av_q (.aload_n 0)), (1015, av_q (.iload_n 3)), (1016, av_q (.iconst 1)), (1017, av_q (.iadd)), (1018, av_q (.iaload)), (1019, av_q (.aload_n 0)), (1020, av_q (.iload_n 3)), (1021, av_q (.iconst 2)), (1022, av_q (.iadd)), (1023, av_q (.iaload)), (1024, av_q (.aload_n 0)), (1025, av_q (.iload_n 3)), (1026, av_q (.iconst 3)), (1027, av_q (.iadd)), (1028, av_q (.iaload)), (1029, av_q (.aload_n 0)), (1030, av_q (.iload_n 3)), (1031, av_q (.iconst 4)), (1032, av_q (.iadd)), (1033, av_q (.iaload)), (1034, av_q (.aload_n 0)), (1035, av_q (.iload_n 3)), (1036, av_q (.iconst 5)), (1037, av_q (.iadd)), (1038, av_q (.iaload)), (1039, av_qc (.invokevirtual 103) 117 5 0 7), (1042, av_q (.aload_n 2)), (1043, av_q (.aload_n 0)), (1044, av_q (.iload_n 3)), (1045, av_q (.iconst 1)), (1046, av_q (.iadd)), (1047, av_q (.iaload)), (1048, av_q (.aload_n 0)), (1049, av_q (.iload_n 3)), (1050, av_q (.iconst 2)), (1051, av_q (.iadd)), (1052, av_q (.iaload)), (1053, av_q (.aload_n 0)), (1054, av_q (.iload_n 3)), (1055, av_q (.iconst 3)), (1056, av_q (.iadd)), (1057, av_q (.iaload)), (1058, av_q (.aload_n 0)), (1059, av_q (.iload_n 3)), (1060, av_q (.iconst 4)), (1061, av_q (.iadd)), (1062, av_q (.iaload)), (1063, av_q (.aload_n 0)), (1064, av_q (.iload_n 3)), (1065, av_q (.iconst 5)), (1066, av_q (.iadd)), (1067, av_q (.iaload)), (1068, av_qc (.invokevirtual 106) 207 5 0 8), (1071, av_qa (.if_icmp .eq 213) 1284), (1074, av_q (.iconst 0)), (1075, av_qa (.ireturn) 1), (1076, av_q (.aload_n 1)), (1077, av_q (.aload_n 0)), (1078, av_q (.iload_n 3)), (1079, av_q (.iconst 1)), (1080, av_q (.iadd)), (1081, av_q (.iaload)), (1082, av_q (.aload_n 0)), (1083, av_q (.iload_n 3)), (1084, av_q (.iconst 2)), (1085, av_q (.iadd)), (1086, av_q (.iaload)), (1087, av_q (.aload_n 0)), (1088, av_q (.iload_n 3)), (1089, av_q (.iconst 3)), (1090, av_q (.iadd)), (1091, av_q (.iaload)), (1092, av_q (.aload_n 0)), (1093, av_q (.iload_n 3)), (1094, av_q (.iconst 4)), (1095, av_q (.iadd)), (1096, av_q (.iaload)), (1097, av_q (.aload_n 0)), (1098, av_q (.iload_n 3)), (1099, av_q (.iconst 5)), (1100, av_q (.iadd)), (1101, av_q (.iaload)), (1102, av_qc (.invokevirtual 107) 118 5 0 7), (1105, av_q (.aload_n 2)), (1106, av_q (.aload_n 0)), (1107, av_q (.iload_n 3)), (1108, av_q (.iconst 1)), (1109, av_q (.iadd)), (1110, av_q (.iaload)), (1111, av_q (.aload_n 0)), (1112, av_q (.iload_n 3)), (1113, av_q (.iconst 2)), (1114, av_q (.iadd)), (1115, av_q (.iaload)), (1116, av_q (.aload_n 0)), (1117, av_q (.iload_n 3)), (1118, av_q (.iconst 3)), (1119, av_q (.iadd)), (1120, av_q (.iaload)), (1121, av_q (.aload_n 0)), (1122, av_q (.iload_n 3)), (1123, av_q (.iconst 4)), (1124, av_q (.iadd)), (1125, av_q (.iaload)), (1126, av_q (.aload_n 0)), (1127, av_q (.iload_n 3)), (1128, av_q (.iconst 5)), (1129, av_q (.iadd)), (1130, av_q (.iaload)), (1131, av_qc (.invokevirtual 110) 208 5 0 8), (1134, av_qa (.if_icmp .eq 150) 1284), (1137, av_q (.iconst 0)), (1138, av_qa (.ireturn) 1), (1139, av_q (.aload_n 1)), (1140, av_q (.aload_n 0)), (1141, av_q (.iload_n 3)), (1142, av_q (.iconst 1)), (1143, av_q (.iadd)), (1144, av_q (.iaload)), (1145, av_q (.aload_n 0)), (1146, av_q (.iload_n 3)), (1147, av_q (.iconst 2)), (1148, av_q (.iadd)), (1149, av_q (.iaload)), (1150, av_q (.aload_n 0)), (1151, av_q (.iload_n 3)), (1152, av_q (.iconst 3)), (1153, av_q (.iadd)), (1154, av_q (.iaload)), (1155, av_qc (.invokevirtual 111) 120 3 0 7), (1158, av_q (.aload_n 2)), (1159, av_q (.aload_n 0)), (1160, av_q (.iload_n 3)), (1161, av_q (.iconst 1)), (1162, av_q (.iadd)), (1163, av_q (.iaload)), (1164, av_q (.aload_n 0)), (1165, av_q (.iload_n 3)), (1166, av_q (.iconst 2)), (1167, av_q (.iadd)), (1168, av_q (.iaload)), (1169, av_q (.aload_n 0)), (1170, av_q (.iload_n 3)), (1171, av_q (.iconst 3)), (1172, av_q (.iadd)), (1173, av_q (.iaload)), (1174, av_qc (.invokevirtual 114) 211 3 0 8), (1177, av_qa (.if_icmp .eq 107) 1284), (1180, av_q (.iconst 0)), (1181, av_qa (.ireturn) 1), (1182, av_q (.aload_n 1)), (1183, av_q (.aload_n 0)), (1184, av_q (.iload_n 3)), (1185, av_q (.iconst 1)), (1186, av_q (.iadd)), (1187, av_q (.iaload)), (1188, av_q (.aload_n 0)), (1189, av_q (.iload_n 3)), (1190, av_q (.iconst 2)), (1191, av_q (.iadd)), (1192, av_q (.iaload)), (1193, av_q (.aload_n 0)), (1194, av_q (.iload_n 3)), (1195, av_q (.iconst 3)), (1196, av_q (.iadd)), (1197, av_q (.iaload)), (1198, av_qc (.invokevirtual 115) 121 3 0 7), (1201, av_q (.aload_n 2)), (1202, av_q (.aload_n 0)), (1203, av_q (.iload_n 3)), (1204, av_q (.iconst 1)), (1205, av_q (.iadd)), (1206, av_q (.iaload)), (1207, av_q (.aload_n 0)), (1208, av_q (.iload_n 3)), (1209, av_q (.iconst 2)), (1210, av_q (.iadd)), (1211, av_q (.iaload)), (1212, av_q (.aload_n 0)), (1213, av_q (.iload_n 3)), (1214, av_q (.iconst 3)), (1215, av_q (.iadd)), (1216, av_q (.iaload)), (1217, av_qc (.invokevirtual 118) 212 3 0 8), (1220, av_qa (.if_icmp .eq 64) 1284), (1223, av_q (.iconst 0)), (1224, av_qa (.ireturn) 1), (1225, av_q (.aload_n 1)), (1226, av_qc (.invokevirtual 119) 123 0 0 7), (1229, av_q (.aload_n 2)), (1230, av_qc (.invokevirtual 122) 214 0 0 8), (1233, av_qa (.if_icmp .eq 51) 1284), (1236, av_q (.iconst 0)), (1237, av_qa (.ireturn) 1), (1238, av_q (.aload_n 1)), (1239, av_q (.aload_n 0)), (1240, av_q (.iload_n 3)), (1241, av_q (.iconst 1)), (1242, av_q (.iadd)), (1243, av_q (.iaload)), (1244, av_qc (.invokevirtual 123) 124 1 0 7), (1247, av_q (.aload_n 2)), (1248, av_q (.aload_n 0)), (1249, av_q (.iload_n 3)), (1250, av_q (.iconst 1)), (1251, av_q (.iadd)), (1252, av_q (.iaload)), (1253, av_qc (.invokevirtual 127) 215 1 0 8), (1256, av_qa (.if_icmp .eq 28) 1284), (1259, av_q (.iconst 0)), (1260, av_qa (.ireturn) 1), (1261, av_q (.aload_n 1)), (1262, av_q (.aload_n 0)), (1263, av_q (.iload_n 3)), (1264, av_q (.iconst 1)), (1265, av_q (.iadd)), (1266, av_q (.iaload)), (1267, av_qc (.invokevirtual 128) 125 1 0 7), (1270, av_q (.aload_n 2)), (1271, av_q (.aload_n 0)), (1272, av_q (.iload_n 3)), (1273, av_q (.iconst 1)), (1274, av_q (.iadd)), (1275, av_q (.iaload)), (1276, av_qc (.invokevirtual 131) 217 1 0 8), (1279, av_qa (.if_icmp .eq 5) 1284), (1282, av_q (.iconst 0)), (1283, av_qa (.ireturn) 1), (1284, av_q (.iinc 3 6)), (1287, av_qa (.goto (-1269)) 18), (1290, av_q (.iconst 1)), (1291, av_qa (.ireturn) 1)]
def ms_0 : av_Mr := (0, ⟨RX0, "<init>", "(LCrossingWords$Case;)V"⟩, prog_2_method_1_code, 2, none, 1, 1, 1, 40, cd_0)
def ms_1 : av_Mr := (0, ⟨RX0, "take", "(LCrossingWords$Case;[I[II)V"⟩, prog_2_method_2_code, 9, none, 0, 4, 3, 65, cd_1)
def ms_2 : av_Mr := (0, ⟨RX0, "decide", "(I)Z"⟩, prog_2_method_3_code, 2, (some FieldType.boolean), 0, 1, 2, 65, cd_2)
def ms_3 : av_Mr := (0, ⟨RX0, "hasBargain", "()Z"⟩, prog_2_method_4_code, 1, (some FieldType.boolean), 0, 0, 0, 0, cd_3)
def ms_4 : av_Mr := (0, ⟨RX0, "hear", "(I)V"⟩, prog_2_method_5_code, 6, none, 0, 1, 1, 40, cd_4)
def ms_5 : av_Mr := (0, ⟨RX0, "setHours", "(II)V"⟩, prog_2_method_6_code, 8, none, 0, 2, 0, 0, cd_5)
def ms_6 : av_Mr := (0, ⟨RX0, "hourOf", "(II)I"⟩, prog_2_method_7_code, 3, (some FieldType.int), 0, 2, 0, 0, cd_6)
def ms_7 : av_Mr := (0, ⟨RX0, "openOffers", "()V"⟩, prog_2_method_8_code, 4, none, 0, 0, 1, 24, cd_7)
def ms_8 : av_Mr := (0, ⟨RX0, "endAt", "(IIII)V"⟩, prog_2_method_9_code, 5, none, 0, 4, 0, 0, cd_8)
def ms_9 : av_Mr := (0, ⟨RX0, "takeBack", "()V"⟩, prog_2_method_10_code, 5, none, 0, 0, 1, 40, cd_9)
def ms_10 : av_Mr := (0, ⟨RX0, "freeFrom", "(I)I"⟩, prog_2_method_11_code, 3, (some FieldType.int), 0, 1, 0, 0, cd_10)
def ms_11 : av_Mr := (0, ⟨RX0, "hearAnswers", "()V"⟩, prog_2_method_12_code, 4, none, 0, 0, 1, 40, cd_11)
def ms_12 : av_Mr := (0, ⟨RX0, "tryYeses", "()V"⟩, prog_2_method_13_code, 6, none, 0, 0, 1, 22, cd_12)
def ms_13 : av_Mr := (0, ⟨RX0, "yesWhen", "(I)I"⟩, prog_2_method_14_code, 3, (some FieldType.int), 0, 1, 0, 0, cd_13)
def ms_14 : av_Mr := (0, ⟨RX0, "trySilence", "()V"⟩, prog_2_method_15_code, 4, none, 0, 0, 1, 22, cd_14)
def ms_15 : av_Mr := (0, ⟨RX0, "isOffer", "(I)Z"⟩, prog_2_method_16_code, 2, (some FieldType.boolean), 0, 1, 1, 21, cd_15)
def ms_16 : av_Mr := (0, ⟨RX0, "isOpenAt", "(II)Z"⟩, prog_2_method_17_code, 3, (some FieldType.boolean), 0, 2, 0, 0, cd_16)
def ms_17 : av_Mr := (0, ⟨RX0, "bargainWord", "(I)I"⟩, prog_2_method_18_code, 4, (some FieldType.int), 0, 1, 3, 68, cd_17)
def ms_18 : av_Mr := (0, ⟨RX0, "boundHands", "()I"⟩, prog_2_method_19_code, 3, (some FieldType.int), 0, 0, 2, 43, cd_18)
def ms_19 : av_Mr := (0, ⟨RX0, "bearer", "(I)I"⟩, prog_2_method_20_code, 4, (some FieldType.int), 0, 1, 3, 66, cd_19)
def ms_20 : av_Mr := (0, ⟨RX0, "riskPasses", "()I"⟩, prog_2_method_21_code, 4, (some FieldType.int), 0, 0, 2, 43, cd_20)
def ms_21 : av_Mr := (0, ⟨RX0, "doings", "(I)I"⟩, prog_2_method_22_code, 4, (some FieldType.int), 0, 1, 2, 46, cd_21)
def ms_22 : av_Mr := (0, ⟨RX0, "forestalls", "(II)Z"⟩, prog_2_method_23_code, 5, (some FieldType.boolean), 0, 2, 1, 22, cd_22)
def ms_23 : av_Mr := (0, ⟨RX0, "mayAt", "(III)Z"⟩, prog_2_method_24_code, 5, (some FieldType.boolean), 0, 3, 3, 67, cd_23)
def ms_24 : av_Mr := (0, ⟨RX0, "mayUntil", "(II)I"⟩, prog_2_method_25_code, 5, (some FieldType.int), 0, 2, 3, 67, cd_24)
def ms_25 : av_Mr := (0, ⟨RX0, "mayFrom", "(III)I"⟩, prog_2_method_26_code, 5, (some FieldType.int), 0, 3, 2, 43, cd_25)
def ms_26 : av_Mr := (0, ⟨RX0, "mayTo", "(I)I"⟩, prog_2_method_27_code, 2, (some FieldType.int), 0, 1, 1, 40, cd_26)
def ms_27 : av_Mr := (1, ⟨RX1, "<init>", "([II)V"⟩, prog_3_method_1_code, 9, none, 1, 2, 5, 142, cd_27)
def ms_28 : av_Mr := (1, ⟨RX1, "has", "(I)Z"⟩, prog_3_method_2_code, 2, (some FieldType.boolean), 0, 1, 0, 0, cd_28)
def ms_29 : av_Mr := (1, ⟨RX1, "cell", "(II)I"⟩, prog_3_method_3_code, 3, (some FieldType.int), 0, 2, 1, 21, cd_29)
def ms_30 : av_Mr := (1, ⟨RX1, "tellsLittle", "(I)Z"⟩, prog_3_method_4_code, 3, (some FieldType.boolean), 0, 1, 2, 43, cd_30)
def ms_31 : av_Mr := (1, ⟨RX1, "wordOf", "(II)I"⟩, prog_3_method_5_code, 6, (some FieldType.int), 0, 2, 2, 43, cd_31)
def ms_32 : av_Mr := (1, ⟨RX1, "withLost", "(I)LCrossingWords$Case;"⟩, prog_3_method_6_code, 3, (some (FieldType.object "CrossingWords$Case")), 0, 1, 6, 170, cd_32)
def ms_33 : av_Mr := (1, ⟨RX1, "withWire", "(I)LCrossingWords$Case;"⟩, prog_3_method_7_code, 4, (some (FieldType.object "CrossingWords$Case")), 0, 1, 6, 170, cd_33)
def ms_34 : av_Mr := (2, ⟨RX2, "<init>", "(LCrossingWords$Tape;)V"⟩, prog_4_method_1_code, 2, none, 1, 1, 1, 40, cd_34)
def ms_35 : av_Mr := (2, ⟨RX2, "readBehind", "(LCrossingWords$Case;I)LCrossingWords$Case;"⟩, prog_4_method_2_code, 6, (some (FieldType.object "CrossingWords$Case")), 0, 2, 9, 238, cd_35)
def ms_36 : av_Mr := (2, ⟨RX2, "readSaying", "(I)V"⟩, prog_4_method_3_code, 5, none, 0, 1, 8, 214, cd_36)
def ms_37 : av_Mr := (2, ⟨RX2, "readOther", "(I)V"⟩, prog_4_method_4_code, 2, none, 0, 1, 6, 168, cd_37)
def ms_38 : av_Mr := (2, ⟨RX2, "readSaid", "(II)V"⟩, prog_4_method_5_code, 4, none, 0, 2, 2, 41, cd_38)
def ms_39 : av_Mr := (2, ⟨RX2, "fits", "(III)Z"⟩, prog_4_method_6_code, 6, (some FieldType.boolean), 0, 3, 0, 0, cd_39)
def ms_40 : av_Mr := (2, ⟨RX2, "readTerms", "(I)V"⟩, prog_4_method_7_code, 2, none, 0, 1, 6, 169, cd_40)
def ms_41 : av_Mr := (2, ⟨RX2, "readBut", "(I)V"⟩, prog_4_method_8_code, 3, none, 0, 1, 6, 169, cd_41)
def ms_42 : av_Mr := (2, ⟨RX2, "readWords", "(I)V"⟩, prog_4_method_9_code, 4, none, 0, 1, 5, 146, cd_42)
def ms_43 : av_Mr := (2, ⟨RX2, "readTimes", "(I)V"⟩, prog_4_method_10_code, 3, none, 0, 1, 7, 192, cd_43)
def ms_44 : av_Mr := (2, ⟨RX2, "readSpan", "(III)V"⟩, prog_4_method_11_code, 6, none, 0, 3, 6, 167, cd_44)
def ms_45 : av_Mr := (3, ⟨RX3, "<init>", "(LCrossingWords$Shelf;)V"⟩, prog_5_method_1_code, 3, none, 1, 1, 6, 170, cd_45)
def ms_46 : av_Mr := (3, ⟨RX3, "forget", "()V"⟩, prog_5_method_2_code, 1, none, 0, 0, 1, 23, cd_46)
def ms_47 : av_Mr := (3, ⟨RX3, "hourIn", "(LCrossingWords$Case;III)I"⟩, prog_5_method_3_code, 5, (some FieldType.int), 0, 4, 4, 93, cd_47)
def ms_48 : av_Mr := (3, ⟨RX3, "decides", "(III)Z"⟩, prog_5_method_4_code, 5, (some FieldType.boolean), 0, 3, 6, 160, cd_48)
def ms_49 : av_Mr := (3, ⟨RX3, "seat", "(II)Z"⟩, prog_5_method_5_code, 3, (some FieldType.boolean), 0, 2, 6, 160, cd_49)
def ms_50 : av_Mr := (3, ⟨RX3, "seatBoth", "(III)Z"⟩, prog_5_method_6_code, 5, (some FieldType.boolean), 0, 3, 6, 160, cd_50)
def ms_51 : av_Mr := (3, ⟨RX3, "seatCase", "(LCrossingWords$Bench;LCrossingWords$Case;II)Z"⟩, prog_5_method_7_code, 5, (some FieldType.boolean), 0, 4, 5, 136, cd_51)
def ms_52 : av_Mr := (3, ⟨RX3, "learnGivens", "(LCrossingWords$Case;I[II)V"⟩, prog_5_method_8_code, 8, none, 0, 4, 4, 109, cd_52)
def ms_53 : av_Mr := (3, ⟨RX3, "markNeeded", "(LCrossingWords$Case;I)Z"⟩, prog_5_method_9_code, 6, (some FieldType.boolean), 0, 2, 3, 67, cd_53)
def ms_54 : av_Mr := (3, ⟨RX3, "markGivens", "(LCrossingWords$Case;)Z"⟩, prog_5_method_10_code, 5, (some FieldType.boolean), 0, 1, 2, 43, cd_54)
def ms_55 : av_Mr := (3, ⟨RX3, "comboWithout", "(LCrossingWords$Bench;I)I"⟩, prog_5_method_11_code, 4, (some FieldType.int), 2, 2, 3, 86, cd_55)
def ms_56 : av_Mr := (3, ⟨RX3, "countAll", "()V"⟩, prog_5_method_12_code, 2, none, 0, 0, 3, 86, cd_56)
def ms_57 : av_Mr := (3, ⟨RX3, "tallyBargain", "(I)V"⟩, prog_5_method_13_code, 3, none, 0, 1, 1, 40, cd_57)
def ms_58 : av_Mr := (3, ⟨RX3, "hangsOn", "()I"⟩, prog_5_method_14_code, 7, (some FieldType.int), 0, 0, 3, 86, cd_58)
def ms_59 : av_Mr := (3, ⟨RX3, "turnsAnswer", "(II)Z"⟩, prog_5_method_15_code, 4, (some FieldType.boolean), 0, 2, 0, 0, cd_59)
def ms_60 : av_Mr := (3, ⟨RX3, "countApart", "()I"⟩, prog_5_method_16_code, 3, (some FieldType.int), 0, 0, 5, 113, cd_60)
def ms_61 : av_Mr := (3, ⟨RX3, "firstApart", "()I"⟩, prog_5_method_17_code, 2, (some FieldType.int), 0, 0, 5, 113, cd_61)
def ms_62 : av_Mr := (3, ⟨RX3, "partsIn", "(I)Z"⟩, prog_5_method_18_code, 3, (some FieldType.boolean), 0, 1, 4, 91, cd_62)
def ms_63 : av_Mr := (3, ⟨RX3, "leavesNothingToAsk", "(LCrossingWords$Case;II)Z"⟩, prog_5_method_19_code, 7, (some FieldType.boolean), 0, 3, 5, 136, cd_63)
def ms_64 : av_Mr := (4, ⟨RX4, "<init>", "(LCrossingWords$Tape;)V"⟩, prog_6_method_1_code, 2, none, 1, 1, 1, 40, cd_64)
def ms_65 : av_Mr := (4, ⟨RX4, "readAll", "(I)Z"⟩, prog_6_method_2_code, 4, (some FieldType.boolean), 0, 1, 8, 211, cd_65)
def ms_66 : av_Mr := (4, ⟨RX4, "readRule", "()V"⟩, prog_6_method_3_code, 1, none, 0, 0, 7, 191, cd_66)
def ms_67 : av_Mr := (4, ⟨RX4, "readYes", "()V"⟩, prog_6_method_4_code, 4, none, 0, 0, 6, 168, cd_67)
def ms_68 : av_Mr := (5, ⟨RX5, "<init>", "()V"⟩, prog_7_method_1_code, 1, none, 1, 0, 1, 40, cd_68)
def ms_69 : av_Mr := (5, ⟨RX5, "caseAt", "(I)LCrossingWords$Case;"⟩, prog_7_method_2_code, 2, (some (FieldType.object "CrossingWords$Case")), 0, 1, 0, 0, cd_69)
def ms_70 : av_Mr := (5, ⟨RX5, "hasLaw", "(I)Z"⟩, prog_7_method_3_code, 2, (some FieldType.boolean), 0, 1, 0, 0, cd_70)
def ms_71 : av_Mr := (5, ⟨RX5, "addCase", "(LCrossingWords$Case;)I"⟩, prog_7_method_4_code, 2, (some FieldType.int), 0, 1, 0, 0, cd_71)
def ms_72 : av_Mr := (5, ⟨RX5, "addLaw", "([I)I"⟩, prog_7_method_5_code, 2, (some FieldType.int), 0, 1, 1, 40, cd_72)
def ms_73 : av_Mr := (5, ⟨RX5, "addClause", "([I)I"⟩, prog_7_method_6_code, 2, (some FieldType.int), 0, 1, 1, 40, cd_73)
def ms_74 : av_Mr := (5, ⟨RX5, "layOver", "([I[I)V"⟩, prog_7_method_7_code, 3, none, 2, 2, 0, 0, cd_74)
def ms_75 : av_Mr := (5, ⟨RX5, "mixLaw", "([III)V"⟩, prog_7_method_8_code, 5, none, 0, 3, 1, 40, cd_75)
def ms_76 : av_Mr := (5, ⟨RX5, "allSayings", "()I"⟩, prog_7_method_9_code, 4, (some FieldType.int), 0, 0, 1, 21, cd_76)
def ms_77 : av_Mr := (5, ⟨RX5, "becomeLike", "(LCrossingWords$Shelf;)V"⟩, prog_7_method_10_code, 3, none, 0, 1, 1, 40, cd_77)
def ms_78 : av_Mr := (6, ⟨RX6, "<init>", "()V"⟩, prog_8_method_1_code, 1, none, 1, 0, 1, 40, cd_78)
def ms_79 : av_Mr := (6, ⟨RX6, "put", "(I)V"⟩, prog_8_method_2_code, 3, none, 0, 1, 0, 0, cd_79)
def ms_80 : av_Mr := (6, ⟨RX6, "holds", "(I)Z"⟩, prog_8_method_3_code, 2, (some FieldType.boolean), 0, 1, 0, 0, cd_80)
def ms_81 : av_Mr := (6, ⟨RX6, "begin", "(I)V"⟩, prog_8_method_4_code, 2, none, 0, 1, 2, 41, cd_81)
def ms_82 : av_Mr := (6, ⟨RX6, "advance", "()V"⟩, prog_8_method_5_code, 2, none, 0, 0, 1, 20, cd_82)
def ms_83 : av_Mr := (6, ⟨RX6, "sortOf", "(I)I"⟩, prog_8_method_6_code, 1, (some FieldType.int), 2, 1, 0, 0, cd_83)
def ms_84 : av_Mr := (6, ⟨RX6, "goesOn", "()Z"⟩, prog_8_method_7_code, 1, (some FieldType.boolean), 0, 0, 0, 0, cd_84)
def ms_85 : av_Mr := (6, ⟨RX6, "fail", "()V"⟩, prog_8_method_8_code, 1, none, 0, 0, 0, 0, cd_85)
def ms_86 : av_Mr := (6, ⟨RX6, "pick", "(Ljava/lang/String;)I"⟩, prog_8_method_9_code, 7, (some FieldType.int), 0, 1, 4, 120, cd_86)
def ms_87 : av_Mr := (6, ⟨RX6, "choose", "(Ljava/lang/String;)I"⟩, prog_8_method_10_code, 3, (some FieldType.int), 0, 1, 5, 146, cd_87)
def ms_88 : av_Mr := (6, ⟨RX6, "take", "(Ljava/lang/String;)Z"⟩, prog_8_method_11_code, 2, (some FieldType.boolean), 0, 1, 5, 146, cd_88)
def ms_89 : av_Mr := (6, ⟨RX6, "need", "(Ljava/lang/String;)V"⟩, prog_8_method_12_code, 2, none, 0, 1, 5, 146, cd_89)
def ms_90 : av_Mr := (6, ⟨RX6, "needSemicolon", "()V"⟩, prog_8_method_13_code, 1, none, 0, 0, 2, 41, cd_90)
def ms_91 : av_Mr := (6, ⟨RX6, "value", "()I"⟩, prog_8_method_14_code, 3, (some FieldType.int), 0, 0, 0, 0, cd_91)
def ms_92 : av_Mr := (6, ⟨RX6, "number", "(II)I"⟩, prog_8_method_15_code, 4, (some FieldType.int), 0, 2, 2, 41, cd_92)
def ms_93 : av_Mr := (7, ⟨RX7, "<init>", "()V"⟩, prog_1_method_1_code, 1, none, 1, 0, 7, 192, cd_93)
def ms_94 : av_Mr := (7, ⟨RX7, "feed", "(IIIII)I"⟩, prog_1_method_2_code, 6, (some FieldType.int), 0, 5, 1, 22, cd_94)
def ms_95 : av_Mr := (7, ⟨RX7, "tell", "(I)I"⟩, prog_1_method_3_code, 3, (some FieldType.int), 0, 1, 10, 263, cd_95)
def ms_96 : av_Mr := (7, ⟨RX7, "more", "(II)I"⟩, prog_1_method_4_code, 5, (some FieldType.int), 0, 2, 10, 263, cd_96)
def ms_97 : av_Mr := (7, ⟨RX7, "law", "(I)I"⟩, prog_1_method_5_code, 3, (some FieldType.int), 0, 1, 9, 234, cd_97)
def ms_98 : av_Mr := (7, ⟨RX7, "clause", "(I)I"⟩, prog_1_method_6_code, 3, (some FieldType.int), 0, 1, 9, 234, cd_98)
def ms_99 : av_Mr := (7, ⟨RX7, "endReading", "()V"⟩, prog_1_method_7_code, 1, none, 0, 0, 0, 0, cd_99)
def ms_100 : av_Mr := (7, ⟨RX7, "fault", "()I"⟩, prog_1_method_8_code, 1, (some FieldType.int), 0, 0, 0, 0, cd_100)
def ms_101 : av_Mr := (7, ⟨RX7, "saying", "(III)I"⟩, prog_1_method_9_code, 6, (some FieldType.int), 0, 3, 2, 43, cd_101)
def ms_102 : av_Mr := (7, ⟨RX7, "isWordAsked", "(I)Z"⟩, prog_1_method_10_code, 1, (some FieldType.boolean), 2, 1, 0, 0, cd_102)
def ms_103 : av_Mr := (7, ⟨RX7, "asked", "(II)I"⟩, prog_1_method_11_code, 4, (some FieldType.int), 0, 2, 1, 21, cd_103)
def ms_104 : av_Mr := (7, ⟨RX7, "hour", "(IIII)I"⟩, prog_1_method_12_code, 6, (some FieldType.int), 0, 4, 5, 117, cd_104)
def ms_105 : av_Mr := (7, ⟨RX7, "rule", "(II)I"⟩, prog_1_method_13_code, 3, (some FieldType.int), 0, 2, 1, 21, cd_105)
def ms_106 : av_Mr := (7, ⟨RX7, "run", "(IIII)I"⟩, prog_1_method_14_code, 7, (some FieldType.int), 0, 4, 7, 184, cd_106)
def ms_107 : av_Mr := (7, ⟨RX7, "open", "(IIIII)I"⟩, prog_1_method_15_code, 6, (some FieldType.int), 0, 5, 7, 184, cd_107)
def ms_108 : av_Mr := (7, ⟨RX7, "binds", "(III)I"⟩, prog_1_method_16_code, 4, (some FieldType.int), 0, 3, 7, 184, cd_108)
def ms_109 : av_Mr := (7, ⟨RX7, "sure", "(III)I"⟩, prog_1_method_17_code, 4, (some FieldType.int), 0, 3, 7, 182, cd_109)
def ms_110 : av_Mr := (7, ⟨RX7, "hang", "(II)I"⟩, prog_1_method_18_code, 3, (some FieldType.int), 0, 2, 7, 182, cd_110)
def ms_111 : av_Mr := (7, ⟨RX7, "bears", "(IIII)I"⟩, prog_1_method_19_code, 5, (some FieldType.int), 0, 4, 7, 184, cd_111)
def ms_112 : av_Mr := (7, ⟨RX7, "judge", "(IIIII)I"⟩, prog_1_method_20_code, 8, (some FieldType.int), 0, 5, 7, 184, cd_112)
def ms_113 : av_Mr := (7, ⟨RX7, "apart", "(IIII)I"⟩, prog_1_method_21_code, 5, (some FieldType.int), 0, 4, 7, 184, cd_113)
def ms_114 : av_Mr := (7, ⟨RX7, "part", "(II)I"⟩, prog_1_method_22_code, 8, (some FieldType.int), 0, 2, 7, 184, cd_114)
def ms_115 : av_Mr := (7, ⟨RX7, "write", "(I)I"⟩, prog_1_method_23_code, 6, (some FieldType.int), 0, 1, 6, 162, cd_115)
def ms_116 : av_Mr := (7, ⟨RX7, "does", "(IIII)I"⟩, prog_1_method_24_code, 5, (some FieldType.int), 0, 4, 7, 184, cd_116)
def ms_117 : av_Mr := (7, ⟨RX7, "can", "(IIIII)I"⟩, prog_1_method_25_code, 7, (some FieldType.int), 0, 5, 7, 184, cd_117)
def ms_118 : av_Mr := (7, ⟨RX7, "until", "(IIIII)I"⟩, prog_1_method_26_code, 6, (some FieldType.int), 0, 5, 7, 184, cd_118)
def ms_119 : av_Mr := (7, ⟨RX7, "isHand", "(I)Z"⟩, prog_1_method_27_code, 1, (some FieldType.boolean), 2, 1, 0, 0, cd_119)
def ms_120 : av_Mr := (7, ⟨RX7, "lost", "(III)I"⟩, prog_1_method_28_code, 5, (some FieldType.int), 0, 3, 7, 192, cd_120)
def ms_121 : av_Mr := (7, ⟨RX7, "wired", "(III)I"⟩, prog_1_method_29_code, 5, (some FieldType.int), 0, 3, 7, 193, cd_121)
def ms_122 : av_Mr := (7, ⟨RX7, "countChanged", "(LCrossingWords$Case;II)I"⟩, prog_1_method_30_code, 4, (some FieldType.int), 0, 3, 6, 160, cd_122)
def ms_123 : av_Mr := (7, ⟨RX7, "image", "()I"⟩, prog_1_method_31_code, 2, (some FieldType.int), 0, 0, 2, 62, cd_123)
def ms_124 : av_Mr := (7, ⟨RX7, "back", "(I)Z"⟩, prog_1_method_32_code, 2, (some FieldType.boolean), 0, 1, 2, 62, cd_124)
def ms_125 : av_Mr := (7, ⟨RX7, "count", "(I)I"⟩, prog_1_method_33_code, 2, (some FieldType.int), 0, 1, 2, 44, cd_125)
def ms_126 : av_Mr := (8, ⟨RX8, "<init>", "()V"⟩, prog_10_method_1_code, 1, none, 1, 0, 1, 40, cd_126)
def ms_127 : av_Mr := (8, ⟨RX8, "within", "(III)Z"⟩, prog_10_method_3_code, 3, (some FieldType.boolean), 2, 3, 0, 0, cd_127)
def ms_128 : av_Mr := (8, ⟨RX8, "feed", "(IIIII)I"⟩, prog_10_method_4_code, 8, (some FieldType.int), 0, 5, 0, 0, cd_128)
def ms_129 : av_Mr := (8, ⟨RX8, "here", "()I"⟩, prog_10_method_5_code, 1, (some FieldType.int), 0, 0, 0, 0, cd_129)
def ms_130 : av_Mr := (8, ⟨RX8, "next", "()V"⟩, prog_10_method_6_code, 2, none, 0, 0, 1, 22, cd_130)
def ms_131 : av_Mr := (8, ⟨RX8, "errs", "()V"⟩, prog_10_method_7_code, 1, none, 0, 0, 0, 0, cd_131)
def ms_132 : av_Mr := (8, ⟨RX8, "is", "(J)Z"⟩, prog_10_method_8_code, 3, (some FieldType.boolean), 0, 1, 0, 0, cd_132)
def ms_133 : av_Mr := (8, ⟨RX8, "mustBe", "(J)V"⟩, prog_10_method_9_code, 3, none, 0, 1, 2, 43, cd_133)
def ms_134 : av_Mr := (8, ⟨RX8, "numeral", "(II)I"⟩, prog_10_method_10_code, 4, (some FieldType.int), 0, 2, 2, 43, cd_134)
def ms_135 : av_Mr := (8, ⟨RX8, "ends", "()V"⟩, prog_10_method_11_code, 1, none, 0, 0, 2, 43, cd_135)
def ms_136 : av_Mr := (8, ⟨RX8, "begins", "(I)V"⟩, prog_10_method_12_code, 2, none, 0, 1, 2, 43, cd_136)
def ms_137 : av_Mr := (8, ⟨RX8, "handHere", "(I)I"⟩, prog_10_method_13_code, 3, (some FieldType.int), 0, 1, 2, 43, cd_137)
def ms_138 : av_Mr := (8, ⟨RX8, "wordHere", "()I"⟩, prog_10_method_14_code, 1, (some FieldType.int), 0, 0, 0, 0, cd_138)
def ms_139 : av_Mr := (8, ⟨RX8, "whatHere", "()I"⟩, prog_10_method_15_code, 1, (some FieldType.int), 0, 0, 0, 0, cd_139)
def ms_140 : av_Mr := (8, ⟨RX8, "wayHere", "()I"⟩, prog_10_method_16_code, 1, (some FieldType.int), 0, 0, 0, 0, cd_140)
def ms_141 : av_Mr := (8, ⟨RX8, "words", "(IZ)V"⟩, prog_10_method_17_code, 4, none, 0, 2, 3, 66, cd_141)
def ms_142 : av_Mr := (8, ⟨RX8, "span", "(III)V"⟩, prog_10_method_18_code, 5, none, 0, 3, 3, 66, cd_142)
def ms_143 : av_Mr := (8, ⟨RX8, "times", "(I)V"⟩, prog_10_method_19_code, 3, none, 0, 1, 4, 90, cd_143)
def ms_144 : av_Mr := (8, ⟨RX8, "isOffer", "(I)Z"⟩, prog_10_method_20_code, 2, (some FieldType.boolean), 0, 1, 0, 0, cd_144)
def ms_145 : av_Mr := (8, ⟨RX8, "saidHere", "(IIII)I"⟩, prog_10_method_21_code, 8, (some FieldType.int), 0, 4, 2, 43, cd_145)
def ms_146 : av_Mr := (8, ⟨RX8, "readSaying", "(II)V"⟩, prog_10_method_22_code, 6, none, 0, 2, 5, 112, cd_146)
def ms_147 : av_Mr := (8, ⟨RX8, "readSayings", "(II)I"⟩, prog_10_method_23_code, 4, (some FieldType.int), 0, 2, 6, 137, cd_147)
def ms_148 : av_Mr := (8, ⟨RX8, "tell", "(I)I"⟩, prog_10_method_24_code, 3, (some FieldType.int), 0, 1, 7, 160, cd_148)
def ms_149 : av_Mr := (8, ⟨RX8, "isCase", "(I)Z"⟩, prog_10_method_25_code, 2, (some FieldType.boolean), 0, 1, 0, 0, cd_149)
def ms_150 : av_Mr := (8, ⟨RX8, "isLaw", "(I)Z"⟩, prog_10_method_26_code, 2, (some FieldType.boolean), 0, 1, 0, 0, cd_150)
def ms_151 : av_Mr := (8, ⟨RX8, "more", "(II)I"⟩, prog_10_method_27_code, 4, (some FieldType.int), 0, 2, 7, 160, cd_151)
def ms_152 : av_Mr := (8, ⟨RX8, "whenHere", "()I"⟩, prog_10_method_28_code, 2, (some FieldType.int), 0, 0, 2, 43, cd_152)
def ms_153 : av_Mr := (8, ⟨RX8, "one", "(JJJ)I"⟩, prog_10_method_29_code, 8, (some FieldType.int), 0, 3, 2, 43, cd_153)
def ms_154 : av_Mr := (8, ⟨RX8, "readRule", "(I)V"⟩, prog_10_method_30_code, 5, none, 0, 1, 3, 70, cd_154)
def ms_155 : av_Mr := (8, ⟨RX8, "readRules", "(I)Z"⟩, prog_10_method_31_code, 3, (some FieldType.boolean), 0, 1, 4, 94, cd_155)
def ms_156 : av_Mr := (8, ⟨RX8, "law", "(I)I"⟩, prog_10_method_32_code, 2, (some FieldType.int), 0, 1, 5, 116, cd_156)
def ms_157 : av_Mr := (8, ⟨RX8, "clause", "(I)I"⟩, prog_10_method_33_code, 2, (some FieldType.int), 0, 1, 5, 116, cd_157)
def ms_158 : av_Mr := (8, ⟨RX8, "fault", "()I"⟩, prog_10_method_34_code, 1, (some FieldType.int), 0, 0, 0, 0, cd_158)
def ms_159 : av_Mr := (8, ⟨RX8, "lays", "(II)V"⟩, prog_10_method_35_code, 5, none, 0, 2, 1, 22, cd_159)
def ms_160 : av_Mr := (8, ⟨RX8, "rule", "(II)I"⟩, prog_10_method_36_code, 3, (some FieldType.int), 0, 2, 2, 46, cd_160)
def ms_161 : av_Mr := (8, ⟨RX8, "saying", "(III)I"⟩, prog_10_method_37_code, 5, (some FieldType.int), 0, 3, 1, 22, cd_161)
def ms_162 : av_Mr := (8, ⟨RX8, "bring", "(I)V"⟩, prog_10_method_38_code, 5, none, 0, 1, 0, 0, cd_162)
def ms_163 : av_Mr := (8, ⟨RX8, "findAsked", "()V"⟩, prog_10_method_39_code, 4, none, 0, 0, 0, 0, cd_163)
def ms_164 : av_Mr := (8, ⟨RX8, "isLooked", "()Z"⟩, prog_10_method_40_code, 1, (some FieldType.boolean), 0, 0, 0, 0, cd_164)
def ms_165 : av_Mr := (8, ⟨RX8, "hours", "(I)V"⟩, prog_10_method_41_code, 5, none, 0, 1, 0, 0, cd_165)
def ms_166 : av_Mr := (8, ⟨RX8, "when", "(II)I"⟩, prog_10_method_42_code, 3, (some FieldType.int), 0, 2, 0, 0, cd_166)
def ms_167 : av_Mr := (8, ⟨RX8, "isSmall", "(I)Z"⟩, prog_10_method_43_code, 3, (some FieldType.boolean), 0, 1, 0, 0, cd_167)
def ms_168 : av_Mr := (8, ⟨RX8, "isOffering", "(I)Z"⟩, prog_10_method_44_code, 2, (some FieldType.boolean), 0, 1, 1, 22, cd_168)
def ms_169 : av_Mr := (8, ⟨RX8, "isNo", "(I)Z"⟩, prog_10_method_45_code, 2, (some FieldType.boolean), 0, 1, 1, 22, cd_169)
def ms_170 : av_Mr := (8, ⟨RX8, "isYes", "(I)Z"⟩, prog_10_method_46_code, 2, (some FieldType.boolean), 0, 1, 1, 22, cd_170)
def ms_171 : av_Mr := (8, ⟨RX8, "backHour", "(II)I"⟩, prog_10_method_47_code, 4, (some FieldType.int), 0, 2, 1, 22, cd_171)
def ms_172 : av_Mr := (8, ⟨RX8, "noHour", "(II)I"⟩, prog_10_method_48_code, 3, (some FieldType.int), 0, 2, 2, 43, cd_172)
def ms_173 : av_Mr := (8, ⟨RX8, "endsBy", "(III)V"⟩, prog_10_method_49_code, 4, none, 0, 3, 0, 0, cd_173)
def ms_174 : av_Mr := (8, ⟨RX8, "findOffers", "()V"⟩, prog_10_method_50_code, 3, none, 0, 0, 3, 65, cd_174)
def ms_175 : av_Mr := (8, ⟨RX8, "isOpenAt", "(II)Z"⟩, prog_10_method_51_code, 3, (some FieldType.boolean), 0, 2, 0, 0, cd_175)
def ms_176 : av_Mr := (8, ⟨RX8, "yesHour", "(I)I"⟩, prog_10_method_52_code, 2, (some FieldType.int), 0, 1, 1, 22, cd_176)
def ms_177 : av_Mr := (8, ⟨RX8, "isTakenBack", "(II)Z"⟩, prog_10_method_53_code, 5, (some FieldType.boolean), 0, 2, 1, 22, cd_177)
def ms_178 : av_Mr := (8, ⟨RX8, "offersTo", "(III)V"⟩, prog_10_method_54_code, 4, none, 0, 3, 0, 0, cd_178)
def ms_179 : av_Mr := (8, ⟨RX8, "isAnswered", "(II)Z"⟩, prog_10_method_55_code, 5, (some FieldType.boolean), 0, 2, 0, 0, cd_179)
def ms_180 : av_Mr := (8, ⟨RX8, "findBargain", "()V"⟩, prog_10_method_56_code, 4, none, 0, 0, 2, 46, cd_180)
def ms_181 : av_Mr := (8, ⟨RX8, "looks", "(I)V"⟩, prog_10_method_57_code, 2, none, 0, 1, 4, 87, cd_181)
def ms_182 : av_Mr := (8, ⟨RX8, "wordOf", "(II)I"⟩, prog_10_method_58_code, 4, (some FieldType.int), 0, 2, 0, 0, cd_182)
def ms_183 : av_Mr := (8, ⟨RX8, "bargainWord", "(I)I"⟩, prog_10_method_59_code, 3, (some FieldType.int), 0, 1, 1, 23, cd_183)
def ms_184 : av_Mr := (8, ⟨RX8, "isSureNow", "()Z"⟩, prog_10_method_60_code, 2, (some FieldType.boolean), 0, 0, 5, 108, cd_184)
def ms_185 : av_Mr := (8, ⟨RX8, "takes", "(I)V"⟩, prog_10_method_61_code, 4, none, 0, 1, 6, 129, cd_185)
def ms_186 : av_Mr := (8, ⟨RX8, "looksAt", "(III)Z"⟩, prog_10_method_62_code, 4, (some FieldType.boolean), 0, 3, 7, 152, cd_186)
def ms_187 : av_Mr := (8, ⟨RX8, "asked", "(II)I"⟩, prog_10_method_63_code, 3, (some FieldType.int), 0, 2, 2, 46, cd_187)
def ms_188 : av_Mr := (8, ⟨RX8, "bringPlain", "(I)V"⟩, prog_10_method_64_code, 3, none, 0, 1, 1, 24, cd_188)
def ms_189 : av_Mr := (8, ⟨RX8, "hour", "(IIII)I"⟩, prog_10_method_65_code, 5, (some FieldType.int), 0, 4, 2, 46, cd_189)
def ms_190 : av_Mr := (8, ⟨RX8, "run", "(IIII)I"⟩, prog_10_method_66_code, 5, (some FieldType.int), 0, 4, 8, 175, cd_190)
def ms_191 : av_Mr := (8, ⟨RX8, "open", "(IIIII)I"⟩, prog_10_method_67_code, 6, (some FieldType.int), 0, 5, 8, 175, cd_191)
def ms_192 : av_Mr := (8, ⟨RX8, "binds", "(III)I"⟩, prog_10_method_68_code, 4, (some FieldType.int), 0, 3, 8, 175, cd_192)
def ms_193 : av_Mr := (8, ⟨RX8, "sure", "(III)I"⟩, prog_10_method_69_code, 10, (some FieldType.int), 0, 3, 8, 175, cd_193)
def ms_194 : av_Mr := (8, ⟨RX8, "bitsOf", "(I)I"⟩, prog_10_method_70_code, 3, (some FieldType.int), 2, 1, 0, 0, cd_194)
def ms_195 : av_Mr := (8, ⟨RX8, "known", "(II)I"⟩, prog_10_method_71_code, 7, (some FieldType.int), 0, 2, 0, 0, cd_195)
def ms_196 : av_Mr := (8, ⟨RX8, "tells", "(I)Z"⟩, prog_10_method_72_code, 5, (some FieldType.boolean), 0, 1, 1, 26, cd_196)
def ms_197 : av_Mr := (8, ⟨RX8, "hang", "(II)I"⟩, prog_10_method_73_code, 5, (some FieldType.int), 0, 2, 8, 175, cd_197)
def ms_198 : av_Mr := (8, ⟨RX8, "bears", "(IIII)I"⟩, prog_10_method_74_code, 8, (some FieldType.int), 0, 4, 8, 175, cd_198)
def ms_199 : av_Mr := (8, ⟨RX8, "judge", "(IIIII)I"⟩, prog_10_method_75_code, 6, (some FieldType.int), 0, 5, 8, 175, cd_199)
def ms_200 : av_Mr := (8, ⟨RX8, "findApart", "(III)Z"⟩, prog_10_method_76_code, 7, (some FieldType.boolean), 0, 3, 8, 175, cd_200)
def ms_201 : av_Mr := (8, ⟨RX8, "apart", "(IIII)I"⟩, prog_10_method_77_code, 5, (some FieldType.int), 0, 4, 9, 201, cd_201)
def ms_202 : av_Mr := (8, ⟨RX8, "part", "(II)I"⟩, prog_10_method_78_code, 5, (some FieldType.int), 0, 2, 9, 201, cd_202)
def ms_203 : av_Mr := (8, ⟨RX8, "isWritten", "(II)Z"⟩, prog_10_method_79_code, 4, (some FieldType.boolean), 0, 2, 7, 152, cd_203)
def ms_204 : av_Mr := (8, ⟨RX8, "write", "(I)I"⟩, prog_10_method_80_code, 4, (some FieldType.int), 0, 1, 8, 175, cd_204)
def ms_205 : av_Mr := (8, ⟨RX8, "does", "(IIII)I"⟩, prog_10_method_81_code, 9, (some FieldType.int), 0, 4, 8, 175, cd_205)
def ms_206 : av_Mr := (8, ⟨RX8, "canAt", "(II)I"⟩, prog_10_method_82_code, 5, (some FieldType.int), 0, 2, 2, 43, cd_206)
def ms_207 : av_Mr := (8, ⟨RX8, "can", "(IIIII)I"⟩, prog_10_method_83_code, 6, (some FieldType.int), 0, 5, 8, 175, cd_207)
def ms_208 : av_Mr := (8, ⟨RX8, "until", "(IIIII)I"⟩, prog_10_method_84_code, 7, (some FieldType.int), 0, 5, 8, 175, cd_208)
def ms_209 : av_Mr := (8, ⟨RX8, "withBargain", "()I"⟩, prog_10_method_85_code, 3, (some FieldType.int), 0, 0, 5, 108, cd_209)
def ms_210 : av_Mr := (8, ⟨RX8, "isSaid", "(III)Z"⟩, prog_10_method_86_code, 4, (some FieldType.boolean), 0, 3, 1, 21, cd_210)
def ms_211 : av_Mr := (8, ⟨RX8, "lost", "(III)I"⟩, prog_10_method_87_code, 4, (some FieldType.int), 0, 3, 7, 152, cd_211)
def ms_212 : av_Mr := (8, ⟨RX8, "wired", "(III)I"⟩, prog_10_method_88_code, 5, (some FieldType.int), 0, 3, 7, 152, cd_212)
def ms_213 : av_Mr := (8, ⟨RX8, "copies", "(II)V"⟩, prog_10_method_89_code, 4, none, 0, 2, 0, 0, cd_213)
def ms_214 : av_Mr := (8, ⟨RX8, "image", "()I"⟩, prog_10_method_90_code, 1, (some FieldType.int), 0, 0, 1, 23, cd_214)
def ms_215 : av_Mr := (8, ⟨RX8, "back", "(I)Z"⟩, prog_10_method_91_code, 2, (some FieldType.boolean), 0, 1, 1, 23, cd_215)
def ms_216 : av_Mr := (8, ⟨RX8, "sayingsInAll", "()I"⟩, prog_10_method_92_code, 3, (some FieldType.int), 0, 0, 0, 0, cd_216)
def ms_217 : av_Mr := (8, ⟨RX8, "count", "(I)I"⟩, prog_10_method_93_code, 2, (some FieldType.int), 0, 1, 1, 22, cd_217)
def ms_218 : av_Mr := (11, ⟨"java/lang/Integer", "bitCount", "(I)I"⟩, prog_12_method_49_code, 1, (some FieldType.int), 2, 1, 0, 0, cd_218)
def ms_219 : av_Mr := (10, ⟨"java/util/Arrays", "rangeCheck", "(III)V"⟩, prog_18_method_30_code, 3, none, 2, 3, 0, 0, cd_219)
def ms_220 : av_Mr := (10, ⟨"java/util/Arrays", "fill", "([II)V"⟩, prog_18_method_103_code, 4, none, 2, 2, 0, 0, cd_220)
def ms_221 : av_Mr := (10, ⟨"java/util/Arrays", "fill", "([IIII)V"⟩, prog_18_method_104_code, 5, none, 2, 4, 1, 22, cd_221)
def ms_222 : av_Mr := (10, ⟨"java/util/Arrays", "copyOf", "([II)[I"⟩, prog_18_method_123_code, 3, (some (FieldType.array FieldType.int)), 2, 2, 4, 120, cd_222)
def ms_L : av_Mr := (9, x, code, maxLocals, ret, 2, 1, 14, 548, cd_L)
def av_ms : List av_Mr := [ms_0, ms_1, ms_2, ms_3, ms_4, ms_5, ms_6, ms_7, ms_8, ms_9, ms_10, ms_11, ms_12, ms_13, ms_14, ms_15, ms_16, ms_17, ms_18, ms_19, ms_20, ms_21, ms_22, ms_23, ms_24, ms_25, ms_26, ms_27, ms_28, ms_29, ms_30, ms_31, ms_32, ms_33, ms_34, ms_35, ms_36, ms_37, ms_38, ms_39, ms_40, ms_41, ms_42, ms_43, ms_44, ms_45, ms_46, ms_47, ms_48, ms_49, ms_50, ms_51, ms_52, ms_53, ms_54, ms_55, ms_56, ms_57, ms_58, ms_59, ms_60, ms_61, ms_62, ms_63, ms_64, ms_65, ms_66, ms_67, ms_68, ms_69, ms_70, ms_71, ms_72, ms_73, ms_74, ms_75, ms_76, ms_77, ms_78, ms_79, ms_80, ms_81, ms_82, ms_83, ms_84, ms_85, ms_86, ms_87, ms_88, ms_89, ms_90, ms_91, ms_92, ms_93, ms_94, ms_95, ms_96, ms_97, ms_98, ms_99, ms_100, ms_101, ms_102, ms_103, ms_104, ms_105, ms_106, ms_107, ms_108, ms_109, ms_110, ms_111, ms_112, ms_113, ms_114, ms_115, ms_116, ms_117, ms_118, ms_119, ms_120, ms_121, ms_122, ms_123, ms_124, ms_125, ms_126, ms_127, ms_128, ms_129, ms_130, ms_131, ms_132, ms_133, ms_134, ms_135, ms_136, ms_137, ms_138, ms_139, ms_140, ms_141, ms_142, ms_143, ms_144, ms_145, ms_146, ms_147, ms_148, ms_149, ms_150, ms_151, ms_152, ms_153, ms_154, ms_155, ms_156, ms_157, ms_158, ms_159, ms_160, ms_161, ms_162, ms_163, ms_164, ms_165, ms_166, ms_167, ms_168, ms_169, ms_170, ms_171, ms_172, ms_173, ms_174, ms_175, ms_176, ms_177, ms_178, ms_179, ms_180, ms_181, ms_182, ms_183, ms_184, ms_185, ms_186, ms_187, ms_188, ms_189, ms_190, ms_191, ms_192, ms_193, ms_194, ms_195, ms_196, ms_197, ms_198, ms_199, ms_200, ms_201, ms_202, ms_203, ms_204, ms_205, ms_206, ms_207, ms_208, ms_209, ms_210, ms_211, ms_212, ms_213, ms_214, ms_215, ms_216, ms_217, ms_218, ms_219, ms_220, ms_221, ms_222]
def av_TT : Nat → Option av_Mr := fun mi => av_ms[mi]?
def av_PP : av_P := av_Pt av_TT
end
section
/-! THE TABLE HOLDS: links -/
def av_FT0_0 : List (Nat × Nat × Nat × Nat) := [(0, 9, 0, 0), (0, 15, 0, 1), (0, 18, 0, 2), (0, 22, 0, 3), (0, 25, 0, 4), (0, 28, 0, 5), (0, 31, 0, 6), (0, 34, 0, 7), (0, 37, 0, 8), (0, 40, 0, 9), (0, 43, 0, 10), (0, 46, 0, 11), (0, 49, 0, 13), (0, 53, 0, 14), (0, 56, 0, 15), (0, 59, 0, 12), (1, 15, 1, 0), (1, 21, 1, 1), (1, 34, 1, 2), (1, 37, 1, 3), (2, 9, 2, 1), (2, 15, 2, 2), (2, 19, 2, 0), (3, 11, 3, 4), (3, 15, 3, 5), (3, 19, 3, 6), (3, 22, 3, 7), (3, 25, 3, 8), (3, 28, 3, 9), (3, 32, 3, 10), (3, 40, 3, 0), (3, 49, 3, 1), (3, 53, 3, 2), (3, 56, 3, 3), (4, 9, 4, 1), (4, 15, 4, 0), (5, 11, 5, 0), (5, 19, 5, 1), (5, 22, 5, 2), (5, 25, 5, 3)]
set_option maxRecDepth 100000 in
set_option maxHeartbeats 2000000 in
theorem av_FT0_0_ok : ∀ e ∈ av_FT0_0, Cond.fieldLink (av_cn e.1) e.2.1 (av_T e.2.2.1 e.2.2.2).1 (av_T e.2.2.1 e.2.2.2).2.1 (av_T e.2.2.1 e.2.2.2).2.2.1 ∈ lw_tbl := List.forall_mem_cons.mpr ⟨av_mem (i := 189) rfl, List.forall_mem_cons.mpr ⟨av_mem (i := 190) rfl, List.forall_mem_cons.mpr ⟨av_mem (i := 191) rfl, List.forall_mem_cons.mpr ⟨av_mem (i := 192) rfl, List.forall_mem_cons.mpr ⟨av_mem (i := 193) rfl, List.forall_mem_cons.mpr ⟨av_mem (i := 194) rfl, List.forall_mem_cons.mpr ⟨av_mem (i := 196) rfl, List.forall_mem_cons.mpr ⟨av_mem (i := 198) rfl, List.forall_mem_cons.mpr ⟨av_mem (i := 200) rfl, List.forall_mem_cons.mpr ⟨av_mem (i := 201) rfl, List.forall_mem_cons.mpr ⟨av_mem (i := 202) rfl, List.forall_mem_cons.mpr ⟨av_mem (i := 203) rfl, List.forall_mem_cons.mpr ⟨av_mem (i := 207) rfl, List.forall_mem_cons.mpr ⟨av_mem (i := 209) rfl, List.forall_mem_cons.mpr ⟨av_mem (i := 211) rfl, List.forall_mem_cons.mpr ⟨av_mem (i := 204) rfl, List.forall_mem_cons.mpr ⟨av_mem (i := 159) rfl, List.forall_mem_cons.mpr ⟨av_mem (i := 162) rfl, List.forall_mem_cons.mpr ⟨av_mem (i := 168) rfl, List.forall_mem_cons.mpr ⟨av_mem (i := 170) rfl, List.forall_mem_cons.mpr ⟨av_mem (i := 104) rfl, List.forall_mem_cons.mpr ⟨av_mem (i := 105) rfl, List.forall_mem_cons.mpr ⟨av_mem (i := 103) rfl, List.forall_mem_cons.mpr ⟨av_mem (i := 252) rfl, List.forall_mem_cons.mpr ⟨av_mem (i := 253) rfl, List.forall_mem_cons.mpr ⟨av_mem (i := 254) rfl, List.forall_mem_cons.mpr ⟨av_mem (i := 255) rfl, List.forall_mem_cons.mpr ⟨av_mem (i := 256) rfl, List.forall_mem_cons.mpr ⟨av_mem (i := 258) rfl, List.forall_mem_cons.mpr ⟨av_mem (i := 259) rfl, List.forall_mem_cons.mpr ⟨av_mem (i := 247) rfl, List.forall_mem_cons.mpr ⟨av_mem (i := 248) rfl, List.forall_mem_cons.mpr ⟨av_mem (i := 250) rfl, List.forall_mem_cons.mpr ⟨av_mem (i := 251) rfl, List.forall_mem_cons.mpr ⟨av_mem (i := 120) rfl, List.forall_mem_cons.mpr ⟨av_mem (i := 119) rfl, List.forall_mem_cons.mpr ⟨av_mem (i := 69) rfl, List.forall_mem_cons.mpr ⟨av_mem (i := 71) rfl, List.forall_mem_cons.mpr ⟨av_mem (i := 74) rfl, List.forall_mem_cons.mpr ⟨av_mem (i := 75) rfl, fun _ h => absurd h List.not_mem_nil⟩⟩⟩⟩⟩⟩⟩⟩⟩⟩⟩⟩⟩⟩⟩⟩⟩⟩⟩⟩⟩⟩⟩⟩⟩⟩⟩⟩⟩⟩⟩⟩⟩⟩⟩⟩⟩⟩⟩⟩
def av_FT0_1 : List (Nat × Nat × Nat × Nat) := [(5, 29, 5, 4), (5, 32, 5, 5), (6, 11, 6, 0), (6, 15, 6, 1), (6, 19, 6, 2), (6, 22, 6, 3), (6, 25, 6, 4), (6, 28, 6, 5), (6, 31, 6, 6), (7, 10, 7, 0), (7, 19, 7, 1), (7, 23, 7, 2), (7, 32, 7, 3), (7, 39, 7, 4), (7, 48, 7, 5), (7, 57, 7, 6), (7, 61, 7, 7), (7, 65, 7, 8), (8, 7, 8, 0), (8, 13, 8, 1), (8, 16, 8, 2), (8, 19, 8, 3), (8, 22, 8, 4), (8, 25, 8, 5), (8, 28, 8, 6), (8, 31, 8, 7), (8, 34, 8, 8), (8, 37, 8, 9), (8, 40, 8, 10), (8, 43, 8, 11), (8, 46, 8, 12), (8, 49, 8, 13), (8, 52, 8, 14), (8, 55, 8, 15), (8, 58, 8, 16), (8, 62, 8, 18), (8, 66, 8, 26), (8, 69, 8, 30), (8, 72, 8, 31), (8, 75, 8, 32)]
set_option maxRecDepth 100000 in
set_option maxHeartbeats 2000000 in
theorem av_FT0_1_ok : ∀ e ∈ av_FT0_1, Cond.fieldLink (av_cn e.1) e.2.1 (av_T e.2.2.1 e.2.2.2).1 (av_T e.2.2.1 e.2.2.2).2.1 (av_T e.2.2.1 e.2.2.2).2.2.1 ∈ lw_tbl := List.forall_mem_cons.mpr ⟨av_mem (i := 77) rfl, List.forall_mem_cons.mpr ⟨av_mem (i := 80) rfl, List.forall_mem_cons.mpr ⟨av_mem (i := 32) rfl, List.forall_mem_cons.mpr ⟨av_mem (i := 33) rfl, List.forall_mem_cons.mpr ⟨av_mem (i := 35) rfl, List.forall_mem_cons.mpr ⟨av_mem (i := 36) rfl, List.forall_mem_cons.mpr ⟨av_mem (i := 37) rfl, List.forall_mem_cons.mpr ⟨av_mem (i := 38) rfl, List.forall_mem_cons.mpr ⟨av_mem (i := 39) rfl, List.forall_mem_cons.mpr ⟨av_mem (i := 285) rfl, List.forall_mem_cons.mpr ⟨av_mem (i := 286) rfl, List.forall_mem_cons.mpr ⟨av_mem (i := 287) rfl, List.forall_mem_cons.mpr ⟨av_mem (i := 288) rfl, List.forall_mem_cons.mpr ⟨av_mem (i := 289) rfl, List.forall_mem_cons.mpr ⟨av_mem (i := 290) rfl, List.forall_mem_cons.mpr ⟨av_mem (i := 291) rfl, List.forall_mem_cons.mpr ⟨av_mem (i := 292) rfl, List.forall_mem_cons.mpr ⟨av_mem (i := 293) rfl, List.forall_mem_cons.mpr ⟨av_mem (i := 914) rfl, List.forall_mem_cons.mpr ⟨av_mem (i := 915) rfl, List.forall_mem_cons.mpr ⟨av_mem (i := 916) rfl, List.forall_mem_cons.mpr ⟨av_mem (i := 917) rfl, List.forall_mem_cons.mpr ⟨av_mem (i := 918) rfl, List.forall_mem_cons.mpr ⟨av_mem (i := 919) rfl, List.forall_mem_cons.mpr ⟨av_mem (i := 920) rfl, List.forall_mem_cons.mpr ⟨av_mem (i := 921) rfl, List.forall_mem_cons.mpr ⟨av_mem (i := 922) rfl, List.forall_mem_cons.mpr ⟨av_mem (i := 923) rfl, List.forall_mem_cons.mpr ⟨av_mem (i := 924) rfl, List.forall_mem_cons.mpr ⟨av_mem (i := 925) rfl, List.forall_mem_cons.mpr ⟨av_mem (i := 926) rfl, List.forall_mem_cons.mpr ⟨av_mem (i := 927) rfl, List.forall_mem_cons.mpr ⟨av_mem (i := 928) rfl, List.forall_mem_cons.mpr ⟨av_mem (i := 929) rfl, List.forall_mem_cons.mpr ⟨av_mem (i := 930) rfl, List.forall_mem_cons.mpr ⟨av_mem (i := 932) rfl, List.forall_mem_cons.mpr ⟨av_mem (i := 940) rfl, List.forall_mem_cons.mpr ⟨av_mem (i := 944) rfl, List.forall_mem_cons.mpr ⟨av_mem (i := 945) rfl, List.forall_mem_cons.mpr ⟨av_mem (i := 946) rfl, fun _ h => absurd h List.not_mem_nil⟩⟩⟩⟩⟩⟩⟩⟩⟩⟩⟩⟩⟩⟩⟩⟩⟩⟩⟩⟩⟩⟩⟩⟩⟩⟩⟩⟩⟩⟩⟩⟩⟩⟩⟩⟩⟩⟩⟩⟩
def av_FT0_2 : List (Nat × Nat × Nat × Nat) := [(8, 78, 8, 33), (8, 81, 8, 34), (8, 84, 8, 35), (8, 87, 8, 36), (8, 90, 8, 37), (8, 94, 8, 38), (8, 97, 8, 39), (8, 100, 8, 40), (8, 103, 8, 41), (8, 106, 8, 42), (8, 109, 8, 43), (8, 112, 8, 44), (8, 115, 8, 45), (8, 118, 8, 46), (8, 121, 8, 47), (8, 124, 8, 48), (8, 127, 8, 49), (8, 130, 8, 54), (8, 133, 8, 55), (8, 136, 8, 56), (8, 139, 8, 57), (8, 142, 8, 58), (8, 145, 8, 59), (8, 148, 8, 17), (8, 151, 8, 20), (8, 154, 8, 19), (8, 161, 8, 21), (8, 166, 8, 24), (8, 170, 8, 23), (8, 173, 8, 22), (8, 183, 8, 25), (8, 351, 8, 27), (8, 354, 8, 28), (8, 357, 8, 29), (8, 381, 8, 50), (8, 384, 8, 53), (8, 387, 8, 51), (8, 390, 8, 52), (8, 461, 8, 60), (8, 464, 8, 61)]
set_option maxRecDepth 100000 in
set_option maxHeartbeats 2000000 in
theorem av_FT0_2_ok : ∀ e ∈ av_FT0_2, Cond.fieldLink (av_cn e.1) e.2.1 (av_T e.2.2.1 e.2.2.2).1 (av_T e.2.2.1 e.2.2.2).2.1 (av_T e.2.2.1 e.2.2.2).2.2.1 ∈ lw_tbl := List.forall_mem_cons.mpr ⟨av_mem (i := 947) rfl, List.forall_mem_cons.mpr ⟨av_mem (i := 948) rfl, List.forall_mem_cons.mpr ⟨av_mem (i := 949) rfl, List.forall_mem_cons.mpr ⟨av_mem (i := 950) rfl, List.forall_mem_cons.mpr ⟨av_mem (i := 951) rfl, List.forall_mem_cons.mpr ⟨av_mem (i := 952) rfl, List.forall_mem_cons.mpr ⟨av_mem (i := 953) rfl, List.forall_mem_cons.mpr ⟨av_mem (i := 954) rfl, List.forall_mem_cons.mpr ⟨av_mem (i := 955) rfl, List.forall_mem_cons.mpr ⟨av_mem (i := 956) rfl, List.forall_mem_cons.mpr ⟨av_mem (i := 957) rfl, List.forall_mem_cons.mpr ⟨av_mem (i := 958) rfl, List.forall_mem_cons.mpr ⟨av_mem (i := 959) rfl, List.forall_mem_cons.mpr ⟨av_mem (i := 960) rfl, List.forall_mem_cons.mpr ⟨av_mem (i := 961) rfl, List.forall_mem_cons.mpr ⟨av_mem (i := 962) rfl, List.forall_mem_cons.mpr ⟨av_mem (i := 963) rfl, List.forall_mem_cons.mpr ⟨av_mem (i := 968) rfl, List.forall_mem_cons.mpr ⟨av_mem (i := 969) rfl, List.forall_mem_cons.mpr ⟨av_mem (i := 970) rfl, List.forall_mem_cons.mpr ⟨av_mem (i := 971) rfl, List.forall_mem_cons.mpr ⟨av_mem (i := 972) rfl, List.forall_mem_cons.mpr ⟨av_mem (i := 973) rfl, List.forall_mem_cons.mpr ⟨av_mem (i := 931) rfl, List.forall_mem_cons.mpr ⟨av_mem (i := 934) rfl, List.forall_mem_cons.mpr ⟨av_mem (i := 933) rfl, List.forall_mem_cons.mpr ⟨av_mem (i := 935) rfl, List.forall_mem_cons.mpr ⟨av_mem (i := 938) rfl, List.forall_mem_cons.mpr ⟨av_mem (i := 937) rfl, List.forall_mem_cons.mpr ⟨av_mem (i := 936) rfl, List.forall_mem_cons.mpr ⟨av_mem (i := 939) rfl, List.forall_mem_cons.mpr ⟨av_mem (i := 941) rfl, List.forall_mem_cons.mpr ⟨av_mem (i := 942) rfl, List.forall_mem_cons.mpr ⟨av_mem (i := 943) rfl, List.forall_mem_cons.mpr ⟨av_mem (i := 964) rfl, List.forall_mem_cons.mpr ⟨av_mem (i := 967) rfl, List.forall_mem_cons.mpr ⟨av_mem (i := 965) rfl, List.forall_mem_cons.mpr ⟨av_mem (i := 966) rfl, List.forall_mem_cons.mpr ⟨av_mem (i := 974) rfl, List.forall_mem_cons.mpr ⟨av_mem (i := 975) rfl, fun _ h => absurd h List.not_mem_nil⟩⟩⟩⟩⟩⟩⟩⟩⟩⟩⟩⟩⟩⟩⟩⟩⟩⟩⟩⟩⟩⟩⟩⟩⟩⟩⟩⟩⟩⟩⟩⟩⟩⟩⟩⟩⟩⟩⟩⟩
def av_FT0_3 : List (Nat × Nat × Nat × Nat) := [(8, 482, 8, 62)]
set_option maxRecDepth 100000 in
set_option maxHeartbeats 2000000 in
theorem av_FT0_3_ok : ∀ e ∈ av_FT0_3, Cond.fieldLink (av_cn e.1) e.2.1 (av_T e.2.2.1 e.2.2.2).1 (av_T e.2.2.1 e.2.2.2).2.1 (av_T e.2.2.1 e.2.2.2).2.2.1 ∈ lw_tbl := List.forall_mem_cons.mpr ⟨av_mem (i := 976) rfl, fun _ h => absurd h List.not_mem_nil⟩
def av_FT0 : List (Nat × Nat × Nat × Nat) := av_FT0_0 ++ av_FT0_1 ++ av_FT0_2 ++ av_FT0_3
theorem av_FT0_ok : ∀ e ∈ av_FT0, Cond.fieldLink (av_cn e.1) e.2.1 (av_T e.2.2.1 e.2.2.2).1 (av_T e.2.2.1 e.2.2.2).2.1 (av_T e.2.2.1 e.2.2.2).2.2.1 ∈ lw_tbl := List.forall_mem_append.mpr ⟨List.forall_mem_append.mpr ⟨List.forall_mem_append.mpr ⟨av_FT0_0_ok, av_FT0_1_ok⟩, av_FT0_2_ok⟩, av_FT0_3_ok⟩
def av_FT1_0 : List (Nat × Nat × Nat × Nat) := [(0, 69, 1, 1), (0, 103, 1, 0), (2, 23, 1, 1), (2, 34, 1, 0), (2, 54, 6, 6), (3, 82, 1, 3), (3, 96, 5, 1), (3, 116, 1, 1), (3, 122, 0, 12), (3, 132, 0, 15), (3, 158, 5, 4), (4, 37, 6, 6), (5, 57, 1, 1), (7, 68, 6, 1), (7, 79, 5, 3), (7, 100, 5, 0), (7, 107, 1, 1), (7, 110, 5, 4), (7, 116, 4, 1), (7, 124, 5, 5), (7, 130, 6, 6), (7, 143, 1, 2), (7, 146, 1, 3), (7, 156, 5, 1), (7, 164, 3, 1), (7, 174, 0, 13), (7, 177, 0, 14), (7, 180, 0, 15), (7, 190, 0, 5), (7, 193, 0, 6), (7, 196, 0, 7), (7, 210, 3, 8), (7, 213, 0, 12)]
set_option maxRecDepth 100000 in
set_option maxHeartbeats 2000000 in
theorem av_FT1_0_ok : ∀ e ∈ av_FT1_0, Cond.fieldLinkNest (av_cn e.1) e.2.1 (av_T e.2.2.1 e.2.2.2).1 (av_T e.2.2.1 e.2.2.2).2.1 (av_T e.2.2.1 e.2.2.2).2.2.1 "CrossingWords" ∈ lw_tbl := List.forall_mem_cons.mpr ⟨av_mem (i := 164) rfl, List.forall_mem_cons.mpr ⟨av_mem (i := 161) rfl, List.forall_mem_cons.mpr ⟨av_mem (i := 163) rfl, List.forall_mem_cons.mpr ⟨av_mem (i := 160) rfl, List.forall_mem_cons.mpr ⟨av_mem (i := 41) rfl, List.forall_mem_cons.mpr ⟨av_mem (i := 171) rfl, List.forall_mem_cons.mpr ⟨av_mem (i := 72) rfl, List.forall_mem_cons.mpr ⟨av_mem (i := 167) rfl, List.forall_mem_cons.mpr ⟨av_mem (i := 205) rfl, List.forall_mem_cons.mpr ⟨av_mem (i := 212) rfl, List.forall_mem_cons.mpr ⟨av_mem (i := 79) rfl, List.forall_mem_cons.mpr ⟨av_mem (i := 40) rfl, List.forall_mem_cons.mpr ⟨av_mem (i := 166) rfl, List.forall_mem_cons.mpr ⟨av_mem (i := 34) rfl, List.forall_mem_cons.mpr ⟨av_mem (i := 76) rfl, List.forall_mem_cons.mpr ⟨av_mem (i := 70) rfl, List.forall_mem_cons.mpr ⟨av_mem (i := 165) rfl, List.forall_mem_cons.mpr ⟨av_mem (i := 78) rfl, List.forall_mem_cons.mpr ⟨av_mem (i := 121) rfl, List.forall_mem_cons.mpr ⟨av_mem (i := 81) rfl, List.forall_mem_cons.mpr ⟨av_mem (i := 42) rfl, List.forall_mem_cons.mpr ⟨av_mem (i := 169) rfl, List.forall_mem_cons.mpr ⟨av_mem (i := 172) rfl, List.forall_mem_cons.mpr ⟨av_mem (i := 73) rfl, List.forall_mem_cons.mpr ⟨av_mem (i := 249) rfl, List.forall_mem_cons.mpr ⟨av_mem (i := 208) rfl, List.forall_mem_cons.mpr ⟨av_mem (i := 210) rfl, List.forall_mem_cons.mpr ⟨av_mem (i := 213) rfl, List.forall_mem_cons.mpr ⟨av_mem (i := 195) rfl, List.forall_mem_cons.mpr ⟨av_mem (i := 197) rfl, List.forall_mem_cons.mpr ⟨av_mem (i := 199) rfl, List.forall_mem_cons.mpr ⟨av_mem (i := 257) rfl, List.forall_mem_cons.mpr ⟨av_mem (i := 206) rfl, fun _ h => absurd h List.not_mem_nil⟩⟩⟩⟩⟩⟩⟩⟩⟩⟩⟩⟩⟩⟩⟩⟩⟩⟩⟩⟩⟩⟩⟩⟩⟩⟩⟩⟩⟩⟩⟩⟩⟩
def av_FT1 : List (Nat × Nat × Nat × Nat) := av_FT1_0
theorem av_FT1_ok : ∀ e ∈ av_FT1, Cond.fieldLinkNest (av_cn e.1) e.2.1 (av_T e.2.2.1 e.2.2.2).1 (av_T e.2.2.1 e.2.2.2).2.1 (av_T e.2.2.1 e.2.2.2).2.2.1 "CrossingWords" ∈ lw_tbl := av_FT1_0_ok
def av_CT_0 : List (Nat × Nat × Nat) := [(1, 16, 1), (2, 24, 1), (3, 35, 1), (3, 44, 0), (7, 7, 6), (7, 16, 5), (7, 27, 2), (7, 36, 4), (7, 43, 3), (7, 52, 1), (9, 7, 7), (9, 10, 8)]
set_option maxRecDepth 100000 in
set_option maxHeartbeats 2000000 in
theorem av_CT_0_ok : ∀ e ∈ av_CT_0, Cond.classLink (av_cn e.1) e.2.1 (av_cn e.2.2) ∈ lw_tbl := List.forall_mem_cons.mpr ⟨av_mem (i := 871) rfl, List.forall_mem_cons.mpr ⟨av_mem (i := 489) rfl, List.forall_mem_cons.mpr ⟨av_mem (i := 133) rfl, List.forall_mem_cons.mpr ⟨av_mem (i := 183) rfl, List.forall_mem_cons.mpr ⟨av_mem (i := 26) rfl, List.forall_mem_cons.mpr ⟨av_mem (i := 59) rfl, List.forall_mem_cons.mpr ⟨av_mem (i := 97) rfl, List.forall_mem_cons.mpr ⟨av_mem (i := 113) rfl, List.forall_mem_cons.mpr ⟨av_mem (i := 127) rfl, List.forall_mem_cons.mpr ⟨av_mem (i := 283) rfl, List.forall_mem_cons.mpr ⟨av_mem (i := 18) rfl, List.forall_mem_cons.mpr ⟨av_mem (i := 908) rfl, fun _ h => absurd h List.not_mem_nil⟩⟩⟩⟩⟩⟩⟩⟩⟩⟩⟩⟩
def av_CT : List (Nat × Nat × Nat) := av_CT_0
theorem av_CT_ok : ∀ e ∈ av_CT, Cond.classLink (av_cn e.1) e.2.1 (av_cn e.2.2) ∈ lw_tbl := av_CT_0_ok
def av_IT_0 : List (Nat × Nat × Nat) := [(0, 1000, 3), (0, 1001, 106), (0, 1002, 122), (1, 1000, 3), (1, 1001, 25), (1, 1002, 31), (1, 1004, 47), (2, 1000, 3), (2, 1002, 28), (2, 1003, 35), (3, 1000, 3), (3, 1001, 140), (3, 1002, 135), (4, 1000, 3), (5, 1000, 3), (5, 1003, 39), (6, 1000, 3), (6, 1005, 45), (6, 1006, 50), (7, 1000, 1), (8, 1000, 1), (10, 1002, 304), (10, 1003, 150), (10, 1004, 316)]
set_option maxRecDepth 100000 in
set_option maxHeartbeats 2000000 in
theorem av_IT_0_ok : ∀ e ∈ av_IT_0, av_lkP e.1 e.2.1 e.2.2 := List.forall_mem_cons.mpr ⟨av_mem (i := 188) rfl, List.forall_mem_cons.mpr ⟨av_mem (i := 609) rfl, List.forall_mem_cons.mpr ⟨av_mem (i := 674) rfl, List.forall_mem_cons.mpr ⟨av_mem (i := 138) rfl, List.forall_mem_cons.mpr ⟨av_mem (i := 155) rfl, List.forall_mem_cons.mpr ⟨av_mem (i := 158) rfl, List.forall_mem_cons.mpr ⟨av_mem (i := 869) rfl, List.forall_mem_cons.mpr ⟨av_mem (i := 102) rfl, List.forall_mem_cons.mpr ⟨av_mem (i := 345) rfl, List.forall_mem_cons.mpr ⟨av_mem (i := 346) rfl, List.forall_mem_cons.mpr ⟨av_mem (i := 132) rfl, List.forall_mem_cons.mpr ⟨av_mem (i := 746) rfl, List.forall_mem_cons.mpr ⟨av_mem (i := 745) rfl, List.forall_mem_cons.mpr ⟨av_mem (i := 118) rfl, List.forall_mem_cons.mpr ⟨av_mem (i := 64) rfl, List.forall_mem_cons.mpr ⟨av_mem (i := 550) rfl, List.forall_mem_cons.mpr ⟨av_mem (i := 31) rfl, List.forall_mem_cons.mpr ⟨av_mem (i := 374) rfl, List.forall_mem_cons.mpr ⟨av_mem (i := 384) rfl, List.forall_mem_cons.mpr ⟨av_mem (i := 23) rfl, List.forall_mem_cons.mpr ⟨av_mem (i := 913) rfl, List.forall_mem_cons.mpr ⟨av_mem (i := 149) rfl, List.forall_mem_cons.mpr ⟨av_mem (i := 152) rfl, List.forall_mem_cons.mpr ⟨av_mem (i := 142) rfl, fun _ h => absurd h List.not_mem_nil⟩⟩⟩⟩⟩⟩⟩⟩⟩⟩⟩⟩⟩⟩⟩⟩⟩⟩⟩⟩⟩⟩⟩⟩
def av_IT : List (Nat × Nat × Nat) := av_IT_0
theorem av_IT_ok : ∀ e ∈ av_IT, av_lkP e.1 e.2.1 e.2.2 := av_IT_0_ok
def av_KT_0 : List (Nat × Nat × Int) := [(8, 182, (1000000)), (11, 265, (1431655765)), (11, 266, (858993459)), (11, 267, (252645135))]
set_option maxRecDepth 100000 in
set_option maxHeartbeats 2000000 in
theorem av_KT_0_ok : ∀ e ∈ av_KT_0, Cond.constant (av_cn e.1) e.2.1 (Int32.ofInt e.2.2) ∈ lw_tbl := List.forall_mem_cons.mpr ⟨av_mem (i := 1129) rfl, List.forall_mem_cons.mpr ⟨av_mem (i := 809) rfl, List.forall_mem_cons.mpr ⟨av_mem (i := 810) rfl, List.forall_mem_cons.mpr ⟨av_mem (i := 811) rfl, fun _ h => absurd h List.not_mem_nil⟩⟩⟩⟩
def av_KT : List (Nat × Nat × Int) := av_KT_0
theorem av_KT_ok : ∀ e ∈ av_KT, Cond.constant (av_cn e.1) e.2.1 (Int32.ofInt e.2.2) ∈ lw_tbl := av_KT_0_ok
def av_JT_0 : List (Nat × Nat × Int) := [(8, 164, (-1)), (8, 180, (27)), (8, 197, (3)), (8, 199, (8863997)), (8, 201, (271277)), (8, 203, (2968)), (8, 205, (326369)), (8, 207, (1905383)), (8, 209, (8094240)), (8, 211, (1253)), (8, 213, (18379)), (8, 215, (393)), (8, 217, (40187)), (8, 219, (82516)), (8, 221, (378004)), (8, 223, (326396)), (8, 225, (459761)), (8, 227, (7219835)), (8, 236, (555)), (8, 241, (47)), (8, 251, (664272)), (8, 253, (357970)), (8, 255, (247664)), (8, 276, (168727)), (8, 278, (3913421)), (8, 280, (2045)), (8, 302, (378020)), (8, 304, (70340)), (8, 306, (1065)), (8, 315, (131360)), (8, 317, (1250362)), (8, 319, (-9)), (8, 321, (6409157)), (8, 323, (7496615453)), (8, 325, (10354323)), (8, 327, (129532)), (8, 329, (3379448)), (8, 331, (237458)), (8, 333, (286880)), (8, 335, (361379))]
set_option maxRecDepth 100000 in
set_option maxHeartbeats 2000000 in
theorem av_JT_0_ok : ∀ e ∈ av_JT_0, Cond.constantLong (av_cn e.1) e.2.1 (Int64.ofInt e.2.2) ∈ lw_tbl := List.forall_mem_cons.mpr ⟨av_mem (i := 1124) rfl, List.forall_mem_cons.mpr ⟨av_mem (i := 1128) rfl, List.forall_mem_cons.mpr ⟨av_mem (i := 1157) rfl, List.forall_mem_cons.mpr ⟨av_mem (i := 1174) rfl, List.forall_mem_cons.mpr ⟨av_mem (i := 1175) rfl, List.forall_mem_cons.mpr ⟨av_mem (i := 1176) rfl, List.forall_mem_cons.mpr ⟨av_mem (i := 1177) rfl, List.forall_mem_cons.mpr ⟨av_mem (i := 1178) rfl, List.forall_mem_cons.mpr ⟨av_mem (i := 1146) rfl, List.forall_mem_cons.mpr ⟨av_mem (i := 1147) rfl, List.forall_mem_cons.mpr ⟨av_mem (i := 1148) rfl, List.forall_mem_cons.mpr ⟨av_mem (i := 1149) rfl, List.forall_mem_cons.mpr ⟨av_mem (i := 1150) rfl, List.forall_mem_cons.mpr ⟨av_mem (i := 1151) rfl, List.forall_mem_cons.mpr ⟨av_mem (i := 1152) rfl, List.forall_mem_cons.mpr ⟨av_mem (i := 1198) rfl, List.forall_mem_cons.mpr ⟨av_mem (i := 1199) rfl, List.forall_mem_cons.mpr ⟨av_mem (i := 1200) rfl, List.forall_mem_cons.mpr ⟨av_mem (i := 1210) rfl, List.forall_mem_cons.mpr ⟨av_mem (i := 1201) rfl, List.forall_mem_cons.mpr ⟨av_mem (i := 1211) rfl, List.forall_mem_cons.mpr ⟨av_mem (i := 1212) rfl, List.forall_mem_cons.mpr ⟨av_mem (i := 1213) rfl, List.forall_mem_cons.mpr ⟨av_mem (i := 1183) rfl, List.forall_mem_cons.mpr ⟨av_mem (i := 1188) rfl, List.forall_mem_cons.mpr ⟨av_mem (i := 1189) rfl, List.forall_mem_cons.mpr ⟨av_mem (i := 1247) rfl, List.forall_mem_cons.mpr ⟨av_mem (i := 1248) rfl, List.forall_mem_cons.mpr ⟨av_mem (i := 1238) rfl, List.forall_mem_cons.mpr ⟨av_mem (i := 1249) rfl, List.forall_mem_cons.mpr ⟨av_mem (i := 1250) rfl, List.forall_mem_cons.mpr ⟨av_mem (i := 1251) rfl, List.forall_mem_cons.mpr ⟨av_mem (i := 1252) rfl, List.forall_mem_cons.mpr ⟨av_mem (i := 1253) rfl, List.forall_mem_cons.mpr ⟨av_mem (i := 1254) rfl, List.forall_mem_cons.mpr ⟨av_mem (i := 1255) rfl, List.forall_mem_cons.mpr ⟨av_mem (i := 1256) rfl, List.forall_mem_cons.mpr ⟨av_mem (i := 1257) rfl, List.forall_mem_cons.mpr ⟨av_mem (i := 1258) rfl, List.forall_mem_cons.mpr ⟨av_mem (i := 1259) rfl, fun _ h => absurd h List.not_mem_nil⟩⟩⟩⟩⟩⟩⟩⟩⟩⟩⟩⟩⟩⟩⟩⟩⟩⟩⟩⟩⟩⟩⟩⟩⟩⟩⟩⟩⟩⟩⟩⟩⟩⟩⟩⟩⟩⟩⟩⟩
def av_JT_1 : List (Nat × Nat × Int) := [(8, 337, (798894590))]
set_option maxRecDepth 100000 in
set_option maxHeartbeats 2000000 in
theorem av_JT_1_ok : ∀ e ∈ av_JT_1, Cond.constantLong (av_cn e.1) e.2.1 (Int64.ofInt e.2.2) ∈ lw_tbl := List.forall_mem_cons.mpr ⟨av_mem (i := 1260) rfl, fun _ h => absurd h List.not_mem_nil⟩
def av_JT : List (Nat × Nat × Int) := av_JT_0 ++ av_JT_1
theorem av_JT_ok : ∀ e ∈ av_JT, Cond.constantLong (av_cn e.1) e.2.1 (Int64.ofInt e.2.2) ∈ lw_tbl := List.forall_mem_append.mpr ⟨av_JT_0_ok, av_JT_1_ok⟩
def av_ML0_0 : List (Nat × Nat × Nat) := [(0, 63, 220), (0, 74, 29), (0, 78, 30), (0, 84, 4), (0, 88, 7), (0, 91, 9), (0, 94, 11), (0, 97, 12), (0, 100, 14), (0, 111, 5), (0, 115, 6), (0, 118, 8), (0, 125, 10), (0, 129, 13), (0, 132, 16), (0, 136, 28), (0, 139, 31), (0, 142, 3), (0, 146, 20), (0, 150, 22), (0, 153, 25), (0, 157, 26), (0, 160, 15), (1, 9, 222), (1, 40, 28), (1, 44, 29), (1, 52, 27), (1, 55, 221), (2, 41, 84), (2, 47, 85), (2, 50, 36), (2, 57, 27), (2, 60, 221), (2, 68, 87), (2, 74, 37), (2, 77, 38), (2, 81, 40), (2, 86, 88), (2, 90, 41), (2, 93, 43)]
set_option maxRecDepth 100000 in
set_option maxHeartbeats 2000000 in
theorem av_ML0_0_ok : ∀ e ∈ av_ML0_0, ∃ r, av_TT e.2.2 = some r ∧ Cond.methodLink (av_cn e.1) e.2.1 r.2.1 ∈ lw_tbl := List.forall_mem_cons.mpr ⟨⟨ms_220, rfl, av_mem (i := 598) rfl⟩, List.forall_mem_cons.mpr ⟨⟨ms_29, rfl, av_mem (i := 599) rfl⟩, List.forall_mem_cons.mpr ⟨⟨ms_30, rfl, av_mem (i := 600) rfl⟩, List.forall_mem_cons.mpr ⟨⟨ms_4, rfl, av_mem (i := 660) rfl⟩, List.forall_mem_cons.mpr ⟨⟨ms_7, rfl, av_mem (i := 661) rfl⟩, List.forall_mem_cons.mpr ⟨⟨ms_9, rfl, av_mem (i := 670) rfl⟩, List.forall_mem_cons.mpr ⟨⟨ms_11, rfl, av_mem (i := 679) rfl⟩, List.forall_mem_cons.mpr ⟨⟨ms_12, rfl, av_mem (i := 683) rfl⟩, List.forall_mem_cons.mpr ⟨⟨ms_14, rfl, av_mem (i := 695) rfl⟩, List.forall_mem_cons.mpr ⟨⟨ms_5, rfl, av_mem (i := 610) rfl⟩, List.forall_mem_cons.mpr ⟨⟨ms_6, rfl, av_mem (i := 665) rfl⟩, List.forall_mem_cons.mpr ⟨⟨ms_8, rfl, av_mem (i := 666) rfl⟩, List.forall_mem_cons.mpr ⟨⟨ms_10, rfl, av_mem (i := 675) rfl⟩, List.forall_mem_cons.mpr ⟨⟨ms_13, rfl, av_mem (i := 687) rfl⟩, List.forall_mem_cons.mpr ⟨⟨ms_16, rfl, av_mem (i := 691) rfl⟩, List.forall_mem_cons.mpr ⟨⟨ms_28, rfl, av_mem (i := 719) rfl⟩, List.forall_mem_cons.mpr ⟨⟨ms_31, rfl, av_mem (i := 707) rfl⟩, List.forall_mem_cons.mpr ⟨⟨ms_3, rfl, av_mem (i := 767) rfl⟩, List.forall_mem_cons.mpr ⟨⟨ms_20, rfl, av_mem (i := 768) rfl⟩, List.forall_mem_cons.mpr ⟨⟨ms_22, rfl, av_mem (i := 829) rfl⟩, List.forall_mem_cons.mpr ⟨⟨ms_25, rfl, av_mem (i := 844) rfl⟩, List.forall_mem_cons.mpr ⟨⟨ms_26, rfl, av_mem (i := 849) rfl⟩, List.forall_mem_cons.mpr ⟨⟨ms_15, rfl, av_mem (i := 848) rfl⟩, List.forall_mem_cons.mpr ⟨⟨ms_222, rfl, av_mem (i := 139) rfl⟩, List.forall_mem_cons.mpr ⟨⟨ms_28, rfl, av_mem (i := 581) rfl⟩, List.forall_mem_cons.mpr ⟨⟨ms_29, rfl, av_mem (i := 604) rfl⟩, List.forall_mem_cons.mpr ⟨⟨ms_27, rfl, av_mem (i := 872) rfl⟩, List.forall_mem_cons.mpr ⟨⟨ms_221, rfl, av_mem (i := 886) rfl⟩, List.forall_mem_cons.mpr ⟨⟨ms_84, rfl, av_mem (i := 347) rfl⟩, List.forall_mem_cons.mpr ⟨⟨ms_85, rfl, av_mem (i := 351) rfl⟩, List.forall_mem_cons.mpr ⟨⟨ms_36, rfl, av_mem (i := 355) rfl⟩, List.forall_mem_cons.mpr ⟨⟨ms_27, rfl, av_mem (i := 490) rfl⟩, List.forall_mem_cons.mpr ⟨⟨ms_221, rfl, av_mem (i := 359) rfl⟩, List.forall_mem_cons.mpr ⟨⟨ms_87, rfl, av_mem (i := 366) rfl⟩, List.forall_mem_cons.mpr ⟨⟨ms_37, rfl, av_mem (i := 424) rfl⟩, List.forall_mem_cons.mpr ⟨⟨ms_38, rfl, av_mem (i := 429) rfl⟩, List.forall_mem_cons.mpr ⟨⟨ms_40, rfl, av_mem (i := 442) rfl⟩, List.forall_mem_cons.mpr ⟨⟨ms_88, rfl, av_mem (i := 457) rfl⟩, List.forall_mem_cons.mpr ⟨⟨ms_41, rfl, av_mem (i := 463) rfl⟩, List.forall_mem_cons.mpr ⟨⟨ms_43, rfl, av_mem (i := 467) rfl⟩, fun _ h => absurd h List.not_mem_nil⟩⟩⟩⟩⟩⟩⟩⟩⟩⟩⟩⟩⟩⟩⟩⟩⟩⟩⟩⟩⟩⟩⟩⟩⟩⟩⟩⟩⟩⟩⟩⟩⟩⟩⟩⟩⟩⟩⟩⟩
def av_ML0_1 : List (Nat × Nat × Nat) := [(2, 96, 90), (2, 99, 86), (2, 102, 91), (2, 106, 39), (2, 110, 82), (2, 113, 42), (2, 118, 92), (2, 129, 89), (2, 133, 44), (3, 37, 27), (3, 46, 0), (3, 59, 220), (3, 64, 1), (3, 68, 4), (3, 72, 6), (3, 76, 69), (3, 85, 51), (3, 89, 2), (3, 93, 70), (3, 100, 52), (3, 104, 53), (3, 108, 55), (3, 112, 54), (3, 119, 29), (3, 126, 221), (3, 129, 57), (3, 143, 59), (3, 147, 62), (3, 150, 3), (3, 154, 17), (3, 161, 75), (4, 19, 220), (4, 25, 84), (4, 31, 85), (4, 34, 66), (4, 43, 87), (4, 47, 67), (4, 54, 92), (4, 66, 90), (5, 45, 74)]
set_option maxRecDepth 100000 in
set_option maxHeartbeats 2000000 in
theorem av_ML0_1_ok : ∀ e ∈ av_ML0_1, ∃ r, av_TT e.2.2 = some r ∧ Cond.methodLink (av_cn e.1) e.2.1 r.2.1 ∈ lw_tbl := List.forall_mem_cons.mpr ⟨⟨ms_90, rfl, av_mem (i := 485) rfl⟩, List.forall_mem_cons.mpr ⟨⟨ms_86, rfl, av_mem (i := 428) rfl⟩, List.forall_mem_cons.mpr ⟨⟨ms_91, rfl, av_mem (i := 433) rfl⟩, List.forall_mem_cons.mpr ⟨⟨ms_39, rfl, av_mem (i := 437) rfl⟩, List.forall_mem_cons.mpr ⟨⟨ms_82, rfl, av_mem (i := 441) rfl⟩, List.forall_mem_cons.mpr ⟨⟨ms_42, rfl, av_mem (i := 446) rfl⟩, List.forall_mem_cons.mpr ⟨⟨ms_92, rfl, av_mem (i := 451) rfl⟩, List.forall_mem_cons.mpr ⟨⟨ms_89, rfl, av_mem (i := 473) rfl⟩, List.forall_mem_cons.mpr ⟨⟨ms_44, rfl, av_mem (i := 477) rfl⟩, List.forall_mem_cons.mpr ⟨⟨ms_27, rfl, av_mem (i := 135) rfl⟩, List.forall_mem_cons.mpr ⟨⟨ms_0, rfl, av_mem (i := 185) rfl⟩, List.forall_mem_cons.mpr ⟨⟨ms_220, rfl, av_mem (i := 511) rfl⟩, List.forall_mem_cons.mpr ⟨⟨ms_1, rfl, av_mem (i := 594) rfl⟩, List.forall_mem_cons.mpr ⟨⟨ms_4, rfl, av_mem (i := 605) rfl⟩, List.forall_mem_cons.mpr ⟨⟨ms_6, rfl, av_mem (i := 614) rfl⟩, List.forall_mem_cons.mpr ⟨⟨ms_69, rfl, av_mem (i := 634) rfl⟩, List.forall_mem_cons.mpr ⟨⟨ms_51, rfl, av_mem (i := 635) rfl⟩, List.forall_mem_cons.mpr ⟨⟨ms_2, rfl, av_mem (i := 656) rfl⟩, List.forall_mem_cons.mpr ⟨⟨ms_70, rfl, av_mem (i := 639) rfl⟩, List.forall_mem_cons.mpr ⟨⟨ms_52, rfl, av_mem (i := 640) rfl⟩, List.forall_mem_cons.mpr ⟨⟨ms_53, rfl, av_mem (i := 644) rfl⟩, List.forall_mem_cons.mpr ⟨⟨ms_55, rfl, av_mem (i := 653) rfl⟩, List.forall_mem_cons.mpr ⟨⟨ms_54, rfl, av_mem (i := 648) rfl⟩, List.forall_mem_cons.mpr ⟨⟨ms_29, rfl, av_mem (i := 652) rfl⟩, List.forall_mem_cons.mpr ⟨⟨ms_221, rfl, av_mem (i := 740) rfl⟩, List.forall_mem_cons.mpr ⟨⟨ms_57, rfl, av_mem (i := 741) rfl⟩, List.forall_mem_cons.mpr ⟨⟨ms_59, rfl, av_mem (i := 755) rfl⟩, List.forall_mem_cons.mpr ⟨⟨ms_62, rfl, av_mem (i := 788) rfl⟩, List.forall_mem_cons.mpr ⟨⟨ms_3, rfl, av_mem (i := 792) rfl⟩, List.forall_mem_cons.mpr ⟨⟨ms_17, rfl, av_mem (i := 793) rfl⟩, List.forall_mem_cons.mpr ⟨⟨ms_75, rfl, av_mem (i := 816) rfl⟩, List.forall_mem_cons.mpr ⟨⟨ms_220, rfl, av_mem (i := 522) rfl⟩, List.forall_mem_cons.mpr ⟨⟨ms_84, rfl, av_mem (i := 523) rfl⟩, List.forall_mem_cons.mpr ⟨⟨ms_85, rfl, av_mem (i := 524) rfl⟩, List.forall_mem_cons.mpr ⟨⟨ms_66, rfl, av_mem (i := 525) rfl⟩, List.forall_mem_cons.mpr ⟨⟨ms_87, rfl, av_mem (i := 530) rfl⟩, List.forall_mem_cons.mpr ⟨⟨ms_67, rfl, av_mem (i := 531) rfl⟩, List.forall_mem_cons.mpr ⟨⟨ms_92, rfl, av_mem (i := 538) rfl⟩, List.forall_mem_cons.mpr ⟨⟨ms_90, rfl, av_mem (i := 543) rfl⟩, List.forall_mem_cons.mpr ⟨⟨ms_74, rfl, av_mem (i := 551) rfl⟩, fun _ h => absurd h List.not_mem_nil⟩⟩⟩⟩⟩⟩⟩⟩⟩⟩⟩⟩⟩⟩⟩⟩⟩⟩⟩⟩⟩⟩⟩⟩⟩⟩⟩⟩⟩⟩⟩⟩⟩⟩⟩⟩⟩⟩⟩⟩
def av_ML0_2 : List (Nat × Nat × Nat) := [(5, 49, 70), (5, 53, 69), (6, 34, 80), (6, 38, 82), (6, 41, 83), (6, 54, 86), (6, 58, 85), (6, 61, 91), (7, 29, 34), (7, 38, 64), (7, 45, 45), (7, 54, 27), (7, 71, 79), (7, 75, 80), (7, 82, 81), (7, 85, 35), (7, 89, 99), (7, 92, 71), (7, 96, 69), (7, 104, 46), (7, 113, 65), (7, 120, 72), (7, 127, 73), (7, 133, 102), (7, 136, 28), (7, 139, 29), (7, 149, 47), (7, 153, 70), (7, 160, 48), (7, 168, 3), (7, 183, 17), (7, 187, 15), (7, 199, 18), (7, 203, 49), (7, 207, 56), (7, 216, 58), (7, 219, 19), (7, 222, 50), (7, 225, 60), (7, 228, 61)]
set_option maxRecDepth 100000 in
set_option maxHeartbeats 2000000 in
theorem av_ML0_2_ok : ∀ e ∈ av_ML0_2, ∃ r, av_TT e.2.2 = some r ∧ Cond.methodLink (av_cn e.1) e.2.1 r.2.1 ∈ lw_tbl := List.forall_mem_cons.mpr ⟨⟨ms_70, rfl, av_mem (i := 820) rfl⟩, List.forall_mem_cons.mpr ⟨⟨ms_69, rfl, av_mem (i := 907) rfl⟩, List.forall_mem_cons.mpr ⟨⟨ms_80, rfl, av_mem (i := 333) rfl⟩, List.forall_mem_cons.mpr ⟨⟨ms_82, rfl, av_mem (i := 334) rfl⟩, List.forall_mem_cons.mpr ⟨⟨ms_83, rfl, av_mem (i := 338) rfl⟩, List.forall_mem_cons.mpr ⟨⟨ms_86, rfl, av_mem (i := 370) rfl⟩, List.forall_mem_cons.mpr ⟨⟨ms_85, rfl, av_mem (i := 422) rfl⟩, List.forall_mem_cons.mpr ⟨⟨ms_91, rfl, av_mem (i := 455) rfl⟩, List.forall_mem_cons.mpr ⟨⟨ms_34, rfl, av_mem (i := 99) rfl⟩, List.forall_mem_cons.mpr ⟨⟨ms_64, rfl, av_mem (i := 115) rfl⟩, List.forall_mem_cons.mpr ⟨⟨ms_45, rfl, av_mem (i := 129) rfl⟩, List.forall_mem_cons.mpr ⟨⟨ms_27, rfl, av_mem (i := 284) rfl⟩, List.forall_mem_cons.mpr ⟨⟨ms_79, rfl, av_mem (i := 317) rfl⟩, List.forall_mem_cons.mpr ⟨⟨ms_80, rfl, av_mem (i := 325) rfl⟩, List.forall_mem_cons.mpr ⟨⟨ms_81, rfl, av_mem (i := 329) rfl⟩, List.forall_mem_cons.mpr ⟨⟨ms_35, rfl, av_mem (i := 341) rfl⟩, List.forall_mem_cons.mpr ⟨⟨ms_99, rfl, av_mem (i := 491) rfl⟩, List.forall_mem_cons.mpr ⟨⟨ms_71, rfl, av_mem (i := 495) rfl⟩, List.forall_mem_cons.mpr ⟨⟨ms_69, rfl, av_mem (i := 503) rfl⟩, List.forall_mem_cons.mpr ⟨⟨ms_46, rfl, av_mem (i := 507) rfl⟩, List.forall_mem_cons.mpr ⟨⟨ms_65, rfl, av_mem (i := 518) rfl⟩, List.forall_mem_cons.mpr ⟨⟨ms_72, rfl, av_mem (i := 544) rfl⟩, List.forall_mem_cons.mpr ⟨⟨ms_73, rfl, av_mem (i := 558) rfl⟩, List.forall_mem_cons.mpr ⟨⟨ms_102, rfl, av_mem (i := 570) rfl⟩, List.forall_mem_cons.mpr ⟨⟨ms_28, rfl, av_mem (i := 573) rfl⟩, List.forall_mem_cons.mpr ⟨⟨ms_29, rfl, av_mem (i := 577) rfl⟩, List.forall_mem_cons.mpr ⟨⟨ms_47, rfl, av_mem (i := 590) rfl⟩, List.forall_mem_cons.mpr ⟨⟨ms_70, rfl, av_mem (i := 622) rfl⟩, List.forall_mem_cons.mpr ⟨⟨ms_48, rfl, av_mem (i := 630) rfl⟩, List.forall_mem_cons.mpr ⟨⟨ms_3, rfl, av_mem (i := 699) rfl⟩, List.forall_mem_cons.mpr ⟨⟨ms_17, rfl, av_mem (i := 703) rfl⟩, List.forall_mem_cons.mpr ⟨⟨ms_15, rfl, av_mem (i := 715) rfl⟩, List.forall_mem_cons.mpr ⟨⟨ms_18, rfl, av_mem (i := 724) rfl⟩, List.forall_mem_cons.mpr ⟨⟨ms_49, rfl, av_mem (i := 732) rfl⟩, List.forall_mem_cons.mpr ⟨⟨ms_56, rfl, av_mem (i := 736) rfl⟩, List.forall_mem_cons.mpr ⟨⟨ms_58, rfl, av_mem (i := 751) rfl⟩, List.forall_mem_cons.mpr ⟨⟨ms_19, rfl, av_mem (i := 763) rfl⟩, List.forall_mem_cons.mpr ⟨⟨ms_50, rfl, av_mem (i := 780) rfl⟩, List.forall_mem_cons.mpr ⟨⟨ms_60, rfl, av_mem (i := 784) rfl⟩, List.forall_mem_cons.mpr ⟨⟨ms_61, rfl, av_mem (i := 794) rfl⟩, fun _ h => absurd h List.not_mem_nil⟩⟩⟩⟩⟩⟩⟩⟩⟩⟩⟩⟩⟩⟩⟩⟩⟩⟩⟩⟩⟩⟩⟩⟩⟩⟩⟩⟩⟩⟩⟩⟩⟩⟩⟩⟩⟩⟩⟩⟩
def av_ML0_3 : List (Nat × Nat × Nat) := [(7, 231, 218), (7, 236, 63), (7, 240, 21), (7, 243, 119), (7, 246, 23), (7, 249, 24), (7, 252, 32), (7, 255, 122), (7, 259, 33), (7, 262, 51), (7, 266, 77), (7, 269, 76), (8, 157, 129), (8, 176, 127), (8, 187, 132), (8, 191, 130), (8, 194, 131), (8, 229, 138), (8, 232, 134), (8, 238, 140), (8, 243, 133), (8, 247, 142), (8, 257, 144), (8, 261, 139), (8, 264, 137), (8, 268, 145), (8, 272, 141), (8, 282, 143), (8, 286, 135), (8, 289, 146), (8, 293, 136), (8, 296, 147), (8, 299, 149), (8, 308, 153), (8, 312, 152), (8, 339, 154), (8, 342, 155), (8, 345, 150), (8, 348, 159), (8, 360, 167)]
set_option maxRecDepth 100000 in
set_option maxHeartbeats 2000000 in
theorem av_ML0_3_ok : ∀ e ∈ av_ML0_3, ∃ r, av_TT e.2.2 = some r ∧ Cond.methodLink (av_cn e.1) e.2.1 r.2.1 ∈ lw_tbl := List.forall_mem_cons.mpr ⟨⟨ms_218, rfl, av_mem (i := 806) rfl⟩, List.forall_mem_cons.mpr ⟨⟨ms_63, rfl, av_mem (i := 812) rfl⟩, List.forall_mem_cons.mpr ⟨⟨ms_21, rfl, av_mem (i := 825) rfl⟩, List.forall_mem_cons.mpr ⟨⟨ms_119, rfl, av_mem (i := 837) rfl⟩, List.forall_mem_cons.mpr ⟨⟨ms_23, rfl, av_mem (i := 840) rfl⟩, List.forall_mem_cons.mpr ⟨⟨ms_24, rfl, av_mem (i := 857) rfl⟩, List.forall_mem_cons.mpr ⟨⟨ms_32, rfl, av_mem (i := 865) rfl⟩, List.forall_mem_cons.mpr ⟨⟨ms_122, rfl, av_mem (i := 873) rfl⟩, List.forall_mem_cons.mpr ⟨⟨ms_33, rfl, av_mem (i := 882) rfl⟩, List.forall_mem_cons.mpr ⟨⟨ms_51, rfl, av_mem (i := 877) rfl⟩, List.forall_mem_cons.mpr ⟨⟨ms_77, rfl, av_mem (i := 891) rfl⟩, List.forall_mem_cons.mpr ⟨⟨ms_76, rfl, av_mem (i := 903) rfl⟩, List.forall_mem_cons.mpr ⟨⟨ms_129, rfl, av_mem (i := 1120) rfl⟩, List.forall_mem_cons.mpr ⟨⟨ms_127, rfl, av_mem (i := 1125) rfl⟩, List.forall_mem_cons.mpr ⟨⟨ms_132, rfl, av_mem (i := 1184) rfl⟩, List.forall_mem_cons.mpr ⟨⟨ms_130, rfl, av_mem (i := 1116) rfl⟩, List.forall_mem_cons.mpr ⟨⟨ms_131, rfl, av_mem (i := 1134) rfl⟩, List.forall_mem_cons.mpr ⟨⟨ms_138, rfl, av_mem (i := 1170) rfl⟩, List.forall_mem_cons.mpr ⟨⟨ms_134, rfl, av_mem (i := 1179) rfl⟩, List.forall_mem_cons.mpr ⟨⟨ms_140, rfl, av_mem (i := 1194) rfl⟩, List.forall_mem_cons.mpr ⟨⟨ms_133, rfl, av_mem (i := 1202) rfl⟩, List.forall_mem_cons.mpr ⟨⟨ms_142, rfl, av_mem (i := 1206) rfl⟩, List.forall_mem_cons.mpr ⟨⟨ms_144, rfl, av_mem (i := 1162) rfl⟩, List.forall_mem_cons.mpr ⟨⟨ms_139, rfl, av_mem (i := 1142) rfl⟩, List.forall_mem_cons.mpr ⟨⟨ms_137, rfl, av_mem (i := 1153) rfl⟩, List.forall_mem_cons.mpr ⟨⟨ms_145, rfl, av_mem (i := 1158) rfl⟩, List.forall_mem_cons.mpr ⟨⟨ms_141, rfl, av_mem (i := 1166) rfl⟩, List.forall_mem_cons.mpr ⟨⟨ms_143, rfl, av_mem (i := 1190) rfl⟩, List.forall_mem_cons.mpr ⟨⟨ms_135, rfl, av_mem (i := 1214) rfl⟩, List.forall_mem_cons.mpr ⟨⟨ms_146, rfl, av_mem (i := 1138) rfl⟩, List.forall_mem_cons.mpr ⟨⟨ms_136, rfl, av_mem (i := 1112) rfl⟩, List.forall_mem_cons.mpr ⟨⟨ms_147, rfl, av_mem (i := 1130) rfl⟩, List.forall_mem_cons.mpr ⟨⟨ms_149, rfl, av_mem (i := 1222) rfl⟩, List.forall_mem_cons.mpr ⟨⟨ms_153, rfl, av_mem (i := 1239) rfl⟩, List.forall_mem_cons.mpr ⟨⟨ms_152, rfl, av_mem (i := 1243) rfl⟩, List.forall_mem_cons.mpr ⟨⟨ms_154, rfl, av_mem (i := 1234) rfl⟩, List.forall_mem_cons.mpr ⟨⟨ms_155, rfl, av_mem (i := 1230) rfl⟩, List.forall_mem_cons.mpr ⟨⟨ms_150, rfl, av_mem (i := 1273) rfl⟩, List.forall_mem_cons.mpr ⟨⟨ms_159, rfl, av_mem (i := 1277) rfl⟩, List.forall_mem_cons.mpr ⟨⟨ms_167, rfl, av_mem (i := 1345) rfl⟩, fun _ h => absurd h List.not_mem_nil⟩⟩⟩⟩⟩⟩⟩⟩⟩⟩⟩⟩⟩⟩⟩⟩⟩⟩⟩⟩⟩⟩⟩⟩⟩⟩⟩⟩⟩⟩⟩⟩⟩⟩⟩⟩⟩⟩⟩⟩
def av_ML0_4 : List (Nat × Nat × Nat) := [(8, 363, 166), (8, 366, 169), (8, 369, 168), (8, 372, 171), (8, 375, 173), (8, 378, 172), (8, 393, 170), (8, 396, 176), (8, 399, 177), (8, 403, 175), (8, 406, 178), (8, 409, 179), (8, 412, 165), (8, 415, 174), (8, 418, 180), (8, 421, 182), (8, 424, 163), (8, 427, 164), (8, 431, 181), (8, 434, 162), (8, 437, 184), (8, 440, 185), (8, 443, 188), (8, 446, 186), (8, 449, 183), (8, 452, 195), (8, 455, 194), (8, 458, 196), (8, 467, 200), (8, 470, 203), (8, 473, 206), (8, 476, 210), (8, 479, 209), (8, 485, 213), (8, 488, 216), (9, 9, 93), (9, 12, 126), (9, 13, 94), (9, 17, 128), (9, 18, 95)]
set_option maxRecDepth 100000 in
set_option maxHeartbeats 2000000 in
theorem av_ML0_4_ok : ∀ e ∈ av_ML0_4, ∃ r, av_TT e.2.2 = some r ∧ Cond.methodLink (av_cn e.1) e.2.1 r.2.1 ∈ lw_tbl := List.forall_mem_cons.mpr ⟨⟨ms_166, rfl, av_mem (i := 1313) rfl⟩, List.forall_mem_cons.mpr ⟨⟨ms_169, rfl, av_mem (i := 1361) rfl⟩, List.forall_mem_cons.mpr ⟨⟨ms_168, rfl, av_mem (i := 1341) rfl⟩, List.forall_mem_cons.mpr ⟨⟨ms_171, rfl, av_mem (i := 1349) rfl⟩, List.forall_mem_cons.mpr ⟨⟨ms_173, rfl, av_mem (i := 1353) rfl⟩, List.forall_mem_cons.mpr ⟨⟨ms_172, rfl, av_mem (i := 1357) rfl⟩, List.forall_mem_cons.mpr ⟨⟨ms_170, rfl, av_mem (i := 1369) rfl⟩, List.forall_mem_cons.mpr ⟨⟨ms_176, rfl, av_mem (i := 1373) rfl⟩, List.forall_mem_cons.mpr ⟨⟨ms_177, rfl, av_mem (i := 1377) rfl⟩, List.forall_mem_cons.mpr ⟨⟨ms_175, rfl, av_mem (i := 1381) rfl⟩, List.forall_mem_cons.mpr ⟨⟨ms_178, rfl, av_mem (i := 1385) rfl⟩, List.forall_mem_cons.mpr ⟨⟨ms_179, rfl, av_mem (i := 1389) rfl⟩, List.forall_mem_cons.mpr ⟨⟨ms_165, rfl, av_mem (i := 1309) rfl⟩, List.forall_mem_cons.mpr ⟨⟨ms_174, rfl, av_mem (i := 1337) rfl⟩, List.forall_mem_cons.mpr ⟨⟨ms_180, rfl, av_mem (i := 1365) rfl⟩, List.forall_mem_cons.mpr ⟨⟨ms_182, rfl, av_mem (i := 1397) rfl⟩, List.forall_mem_cons.mpr ⟨⟨ms_163, rfl, av_mem (i := 1297) rfl⟩, List.forall_mem_cons.mpr ⟨⟨ms_164, rfl, av_mem (i := 1301) rfl⟩, List.forall_mem_cons.mpr ⟨⟨ms_181, rfl, av_mem (i := 1333) rfl⟩, List.forall_mem_cons.mpr ⟨⟨ms_162, rfl, av_mem (i := 1293) rfl⟩, List.forall_mem_cons.mpr ⟨⟨ms_184, rfl, av_mem (i := 1329) rfl⟩, List.forall_mem_cons.mpr ⟨⟨ms_185, rfl, av_mem (i := 1325) rfl⟩, List.forall_mem_cons.mpr ⟨⟨ms_188, rfl, av_mem (i := 1289) rfl⟩, List.forall_mem_cons.mpr ⟨⟨ms_186, rfl, av_mem (i := 1321) rfl⟩, List.forall_mem_cons.mpr ⟨⟨ms_183, rfl, av_mem (i := 1393) rfl⟩, List.forall_mem_cons.mpr ⟨⟨ms_195, rfl, av_mem (i := 1424) rfl⟩, List.forall_mem_cons.mpr ⟨⟨ms_194, rfl, av_mem (i := 1417) rfl⟩, List.forall_mem_cons.mpr ⟨⟨ms_196, rfl, av_mem (i := 1420) rfl⟩, List.forall_mem_cons.mpr ⟨⟨ms_200, rfl, av_mem (i := 1440) rfl⟩, List.forall_mem_cons.mpr ⟨⟨ms_203, rfl, av_mem (i := 1452) rfl⟩, List.forall_mem_cons.mpr ⟨⟨ms_206, rfl, av_mem (i := 1464) rfl⟩, List.forall_mem_cons.mpr ⟨⟨ms_210, rfl, av_mem (i := 1476) rfl⟩, List.forall_mem_cons.mpr ⟨⟨ms_209, rfl, av_mem (i := 1480) rfl⟩, List.forall_mem_cons.mpr ⟨⟨ms_213, rfl, av_mem (i := 1492) rfl⟩, List.forall_mem_cons.mpr ⟨⟨ms_216, rfl, av_mem (i := 1504) rfl⟩, List.forall_mem_cons.mpr ⟨⟨ms_93, rfl, av_mem (i := 20) rfl⟩, List.forall_mem_cons.mpr ⟨⟨ms_126, rfl, av_mem (i := 910) rfl⟩, List.forall_mem_cons.mpr ⟨⟨ms_94, rfl, av_mem (i := 313) rfl⟩, List.forall_mem_cons.mpr ⟨⟨ms_128, rfl, av_mem (i := 1104) rfl⟩, List.forall_mem_cons.mpr ⟨⟨ms_95, rfl, av_mem (i := 321) rfl⟩, fun _ h => absurd h List.not_mem_nil⟩⟩⟩⟩⟩⟩⟩⟩⟩⟩⟩⟩⟩⟩⟩⟩⟩⟩⟩⟩⟩⟩⟩⟩⟩⟩⟩⟩⟩⟩⟩⟩⟩⟩⟩⟩⟩⟩⟩⟩
def av_ML0_5 : List (Nat × Nat × Nat) := [(9, 22, 148), (9, 23, 96), (9, 27, 151), (9, 28, 97), (9, 31, 156), (9, 32, 98), (9, 35, 157), (9, 36, 100), (9, 40, 158), (9, 41, 101), (9, 45, 161), (9, 46, 103), (9, 49, 187), (9, 50, 104), (9, 54, 189), (9, 55, 105), (9, 58, 160), (9, 59, 106), (9, 62, 190), (9, 63, 107), (9, 66, 191), (9, 67, 108), (9, 70, 192), (9, 71, 109), (9, 74, 193), (9, 75, 110), (9, 78, 197), (9, 79, 111), (9, 82, 198), (9, 83, 112), (9, 86, 199), (9, 87, 113), (9, 90, 201), (9, 91, 114), (9, 94, 202), (9, 95, 115), (9, 98, 204), (9, 99, 116), (9, 102, 205), (9, 103, 117)]
set_option maxRecDepth 100000 in
set_option maxHeartbeats 2000000 in
theorem av_ML0_5_ok : ∀ e ∈ av_ML0_5, ∃ r, av_TT e.2.2 = some r ∧ Cond.methodLink (av_cn e.1) e.2.1 r.2.1 ∈ lw_tbl := List.forall_mem_cons.mpr ⟨⟨ms_148, rfl, av_mem (i := 1108) rfl⟩, List.forall_mem_cons.mpr ⟨⟨ms_96, rfl, av_mem (i := 499) rfl⟩, List.forall_mem_cons.mpr ⟨⟨ms_151, rfl, av_mem (i := 1218) rfl⟩, List.forall_mem_cons.mpr ⟨⟨ms_97, rfl, av_mem (i := 514) rfl⟩, List.forall_mem_cons.mpr ⟨⟨ms_156, rfl, av_mem (i := 1226) rfl⟩, List.forall_mem_cons.mpr ⟨⟨ms_98, rfl, av_mem (i := 554) rfl⟩, List.forall_mem_cons.mpr ⟨⟨ms_157, rfl, av_mem (i := 1261) rfl⟩, List.forall_mem_cons.mpr ⟨⟨ms_100, rfl, av_mem (i := 562) rfl⟩, List.forall_mem_cons.mpr ⟨⟨ms_158, rfl, av_mem (i := 1265) rfl⟩, List.forall_mem_cons.mpr ⟨⟨ms_101, rfl, av_mem (i := 566) rfl⟩, List.forall_mem_cons.mpr ⟨⟨ms_161, rfl, av_mem (i := 1281) rfl⟩, List.forall_mem_cons.mpr ⟨⟨ms_103, rfl, av_mem (i := 582) rfl⟩, List.forall_mem_cons.mpr ⟨⟨ms_187, rfl, av_mem (i := 1285) rfl⟩, List.forall_mem_cons.mpr ⟨⟨ms_104, rfl, av_mem (i := 586) rfl⟩, List.forall_mem_cons.mpr ⟨⟨ms_189, rfl, av_mem (i := 1305) rfl⟩, List.forall_mem_cons.mpr ⟨⟨ms_105, rfl, av_mem (i := 618) rfl⟩, List.forall_mem_cons.mpr ⟨⟨ms_160, rfl, av_mem (i := 1269) rfl⟩, List.forall_mem_cons.mpr ⟨⟨ms_106, rfl, av_mem (i := 626) rfl⟩, List.forall_mem_cons.mpr ⟨⟨ms_190, rfl, av_mem (i := 1317) rfl⟩, List.forall_mem_cons.mpr ⟨⟨ms_107, rfl, av_mem (i := 711) rfl⟩, List.forall_mem_cons.mpr ⟨⟨ms_191, rfl, av_mem (i := 1401) rfl⟩, List.forall_mem_cons.mpr ⟨⟨ms_108, rfl, av_mem (i := 720) rfl⟩, List.forall_mem_cons.mpr ⟨⟨ms_192, rfl, av_mem (i := 1405) rfl⟩, List.forall_mem_cons.mpr ⟨⟨ms_109, rfl, av_mem (i := 728) rfl⟩, List.forall_mem_cons.mpr ⟨⟨ms_193, rfl, av_mem (i := 1409) rfl⟩, List.forall_mem_cons.mpr ⟨⟨ms_110, rfl, av_mem (i := 747) rfl⟩, List.forall_mem_cons.mpr ⟨⟨ms_197, rfl, av_mem (i := 1413) rfl⟩, List.forall_mem_cons.mpr ⟨⟨ms_111, rfl, av_mem (i := 759) rfl⟩, List.forall_mem_cons.mpr ⟨⟨ms_198, rfl, av_mem (i := 1428) rfl⟩, List.forall_mem_cons.mpr ⟨⟨ms_112, rfl, av_mem (i := 772) rfl⟩, List.forall_mem_cons.mpr ⟨⟨ms_199, rfl, av_mem (i := 1432) rfl⟩, List.forall_mem_cons.mpr ⟨⟨ms_113, rfl, av_mem (i := 776) rfl⟩, List.forall_mem_cons.mpr ⟨⟨ms_201, rfl, av_mem (i := 1436) rfl⟩, List.forall_mem_cons.mpr ⟨⟨ms_114, rfl, av_mem (i := 798) rfl⟩, List.forall_mem_cons.mpr ⟨⟨ms_202, rfl, av_mem (i := 1444) rfl⟩, List.forall_mem_cons.mpr ⟨⟨ms_115, rfl, av_mem (i := 802) rfl⟩, List.forall_mem_cons.mpr ⟨⟨ms_204, rfl, av_mem (i := 1448) rfl⟩, List.forall_mem_cons.mpr ⟨⟨ms_116, rfl, av_mem (i := 821) rfl⟩, List.forall_mem_cons.mpr ⟨⟨ms_205, rfl, av_mem (i := 1456) rfl⟩, List.forall_mem_cons.mpr ⟨⟨ms_117, rfl, av_mem (i := 833) rfl⟩, fun _ h => absurd h List.not_mem_nil⟩⟩⟩⟩⟩⟩⟩⟩⟩⟩⟩⟩⟩⟩⟩⟩⟩⟩⟩⟩⟩⟩⟩⟩⟩⟩⟩⟩⟩⟩⟩⟩⟩⟩⟩⟩⟩⟩⟩⟩
def av_ML0_6 : List (Nat × Nat × Nat) := [(9, 106, 207), (9, 107, 118), (9, 110, 208), (9, 111, 120), (9, 114, 211), (9, 115, 121), (9, 118, 212), (9, 119, 123), (9, 122, 214), (9, 123, 124), (9, 127, 215), (9, 128, 125), (9, 131, 217), (10, 13, 219)]
set_option maxRecDepth 100000 in
set_option maxHeartbeats 2000000 in
theorem av_ML0_6_ok : ∀ e ∈ av_ML0_6, ∃ r, av_TT e.2.2 = some r ∧ Cond.methodLink (av_cn e.1) e.2.1 r.2.1 ∈ lw_tbl := List.forall_mem_cons.mpr ⟨⟨ms_207, rfl, av_mem (i := 1460) rfl⟩, List.forall_mem_cons.mpr ⟨⟨ms_118, rfl, av_mem (i := 853) rfl⟩, List.forall_mem_cons.mpr ⟨⟨ms_208, rfl, av_mem (i := 1468) rfl⟩, List.forall_mem_cons.mpr ⟨⟨ms_120, rfl, av_mem (i := 861) rfl⟩, List.forall_mem_cons.mpr ⟨⟨ms_211, rfl, av_mem (i := 1472) rfl⟩, List.forall_mem_cons.mpr ⟨⟨ms_121, rfl, av_mem (i := 878) rfl⟩, List.forall_mem_cons.mpr ⟨⟨ms_212, rfl, av_mem (i := 1484) rfl⟩, List.forall_mem_cons.mpr ⟨⟨ms_123, rfl, av_mem (i := 887) rfl⟩, List.forall_mem_cons.mpr ⟨⟨ms_214, rfl, av_mem (i := 1488) rfl⟩, List.forall_mem_cons.mpr ⟨⟨ms_124, rfl, av_mem (i := 895) rfl⟩, List.forall_mem_cons.mpr ⟨⟨ms_215, rfl, av_mem (i := 1496) rfl⟩, List.forall_mem_cons.mpr ⟨⟨ms_125, rfl, av_mem (i := 899) rfl⟩, List.forall_mem_cons.mpr ⟨⟨ms_217, rfl, av_mem (i := 1500) rfl⟩, List.forall_mem_cons.mpr ⟨⟨ms_219, rfl, av_mem (i := 362) rfl⟩, fun _ h => absurd h List.not_mem_nil⟩⟩⟩⟩⟩⟩⟩⟩⟩⟩⟩⟩⟩⟩
def av_ML0 : List (Nat × Nat × Nat) := av_ML0_0 ++ av_ML0_1 ++ av_ML0_2 ++ av_ML0_3 ++ av_ML0_4 ++ av_ML0_5 ++ av_ML0_6
theorem av_ML0_ok : ∀ e ∈ av_ML0, ∃ r, av_TT e.2.2 = some r ∧ Cond.methodLink (av_cn e.1) e.2.1 r.2.1 ∈ lw_tbl := List.forall_mem_append.mpr ⟨List.forall_mem_append.mpr ⟨List.forall_mem_append.mpr ⟨List.forall_mem_append.mpr ⟨List.forall_mem_append.mpr ⟨List.forall_mem_append.mpr ⟨av_ML0_0_ok, av_ML0_1_ok⟩, av_ML0_2_ok⟩, av_ML0_3_ok⟩, av_ML0_4_ok⟩, av_ML0_5_ok⟩, av_ML0_6_ok⟩
def av_ML1_0 : List (Nat × Nat × Nat) := [(7, 9, 78), (7, 18, 68)]
set_option maxRecDepth 100000 in
set_option maxHeartbeats 2000000 in
theorem av_ML1_0_ok : ∀ e ∈ av_ML1_0, ∃ r, av_TT e.2.2 = some r ∧ Cond.methodLinkNest (av_cn e.1) e.2.1 r.2.1 "CrossingWords" ∈ lw_tbl := List.forall_mem_cons.mpr ⟨⟨ms_78, rfl, av_mem (i := 28) rfl⟩, List.forall_mem_cons.mpr ⟨⟨ms_68, rfl, av_mem (i := 61) rfl⟩, fun _ h => absurd h List.not_mem_nil⟩⟩
def av_ML1 : List (Nat × Nat × Nat) := av_ML1_0
theorem av_ML1_ok : ∀ e ∈ av_ML1, ∃ r, av_TT e.2.2 = some r ∧ Cond.methodLinkNest (av_cn e.1) e.2.1 r.2.1 "CrossingWords" ∈ lw_tbl := av_ML1_0_ok
def av_AT_0 : List (Nat × Nat × Nat) := [(5, 9, 30), (7, 16, 31)]
set_option maxRecDepth 100000 in
set_option maxHeartbeats 2000000 in
theorem av_AT_0_ok : ∀ e ∈ av_AT_0, ∃ C0, av_ft e.2.2 = .object C0 ∧ Cond.classLink (av_cn e.1) e.2.1 C0 ∈ lw_tbl ∧ Cond.arrayOver (.object C0) ∈ lw_tbl := List.forall_mem_cons.mpr ⟨⟨RX1, rfl, av_mem (i := 65) rfl, av_mem (i := 66) rfl⟩, List.forall_mem_cons.mpr ⟨⟨RX5, rfl, av_mem (i := 59) rfl, av_mem (i := 96) rfl⟩, fun _ h => absurd h List.not_mem_nil⟩⟩
def av_AT : List (Nat × Nat × Nat) := av_AT_0
theorem av_AT_ok : ∀ e ∈ av_AT, ∃ C0, av_ft e.2.2 = .object C0 ∧ Cond.classLink (av_cn e.1) e.2.1 C0 ∈ lw_tbl ∧ Cond.arrayOver (.object C0) ∈ lw_tbl := av_AT_0_ok
def av_NT_0 : List (Nat × Nat) := [(5, 17)]
set_option maxRecDepth 100000 in
set_option maxHeartbeats 2000000 in
theorem av_NT_0_ok : ∀ e ∈ av_NT_0, Cond.classLink (av_cn e.1) e.2 "[[I" ∈ lw_tbl := List.forall_mem_cons.mpr ⟨av_mem (i := 67) rfl, fun _ h => absurd h List.not_mem_nil⟩
def av_NT : List (Nat × Nat) := av_NT_0
theorem av_NT_ok : ∀ e ∈ av_NT, Cond.classLink (av_cn e.1) e.2 "[[I" ∈ lw_tbl := av_NT_0_ok
def av_XT_0 : List (Nat × Nat) := [(1, 48), (10, 317)]
set_option maxRecDepth 100000 in
set_option maxHeartbeats 2000000 in
theorem av_XT_0_ok : ∀ e ∈ av_XT_0, Cond.classLink (av_cn e.1) e.2 "[I" ∈ lw_tbl := List.forall_mem_cons.mpr ⟨av_mem (i := 870) rfl, List.forall_mem_cons.mpr ⟨av_mem (i := 148) rfl, fun _ h => absurd h List.not_mem_nil⟩⟩
def av_XT : List (Nat × Nat) := av_XT_0
theorem av_XT_ok : ∀ e ∈ av_XT, Cond.classLink (av_cn e.1) e.2 "[I" ∈ lw_tbl := av_XT_0_ok
def av_GT_0 : List (Nat × Nat) := [(5, 35)]
set_option maxRecDepth 100000 in
set_option maxHeartbeats 2000000 in
theorem av_GT_0_ok : ∀ e ∈ av_GT_0, Cond.fieldLinkNest (av_cn e.1) e.2 RX7 "PLAIN_LAW" "[I" "CrossingWords" ∈ lw_tbl := List.forall_mem_cons.mpr ⟨av_mem (i := 548) rfl, fun _ h => absurd h List.not_mem_nil⟩
def av_GT : List (Nat × Nat) := av_GT_0
theorem av_GT_ok : ∀ e ∈ av_GT, Cond.fieldLinkNest (av_cn e.1) e.2 RX7 "PLAIN_LAW" "[I" "CrossingWords" ∈ lw_tbl := av_GT_0_ok
set_option maxRecDepth 100000 in
set_option maxHeartbeats 2000000 in
theorem av_f_ac_byte : Cond.arrayClass .byte ∈ lw_tbl := av_mem (i := 58) rfl
set_option maxRecDepth 100000 in
set_option maxHeartbeats 2000000 in
theorem av_f_ac_boolean : Cond.arrayClass .boolean ∈ lw_tbl := av_mem (i := 182) rfl
/-! THE CHECK OF AN ENTRY -/
def av_okB (own : Nat) (cc : ByteArray) (ini : Bool) (fr lo pc : Nat) (x : av_E) : Bool := decide (decode cc pc = .ok (x.1, av_len x)) && (match x.1 with
  | .bipush n => decide ((Int8.ofInt n).toInt32 = Int32.ofInt n)
  | .sipush n => decide ((Int16.ofInt n).toInt32 = Int32.ofInt n)
  | .ldc idx => (decide (x.2.2.1 = 0) && decide ((own, idx, x.2.2.2.2.2) ∈ av_KT)) || (decide (¬ x.2.2.1 = 0) && av_strs.any (fun q => decide (q.1 = own) && decide (q.2.1 = idx) && decide (q.2.2.1 = x.2.2.2.1)))
  | .ldc_w idx => decide ((own, idx, x.2.2.2.2.2) ∈ av_KT)
  | .ldc2_w idx => decide ((own, idx, x.2.2.2.2.2) ∈ av_JT)
  | .goto off => decide ((pc : Int) + off = (x.2.2.1 : Int))
  | .ifCond _ off => decide ((pc : Int) + off = (x.2.2.1 : Int))
  | .if_icmp _ off => decide ((pc : Int) + off = (x.2.2.1 : Int))
  | .ifnull off => decide ((pc : Int) + off = (x.2.2.1 : Int))
  | .ifnonnull off => decide ((pc : Int) + off = (x.2.2.1 : Int))
  | .tableswitch d low high offs => decide (0 ≤ (pc : Int) + d) && offs.toList.all (fun q => decide (0 ≤ (pc : Int) + q)) && decide (high - low < offs.toList.length)
  | .lookupswitch d ps => (ps.toList.zip (ps.toList.drop 1)).all (fun (a, next) => a.1 < next.1) && decide (0 ≤ (pc : Int) + d) && ps.toList.all (fun q => decide (0 ≤ (pc : Int) + q.2))
  | .getfield idx => decide (x.2.2.1 < 9) && decide (x.2.2.2.1 < av_N x.2.2.1) && decide (x.2.2.2.2.1 = av_tg (av_ty x.2.2.1 x.2.2.2.1)) && (decide ((own, idx, x.2.2.1, x.2.2.2.1) ∈ av_FT0) || decide ((own, idx, x.2.2.1, x.2.2.2.1) ∈ av_FT1))
  | .putfield idx => decide (x.2.2.1 < 9) && decide (x.2.2.2.1 < av_N x.2.2.1) && decide (x.2.2.2.2.1 = av_tg (av_ty x.2.2.1 x.2.2.2.1)) && (decide (¬ x.2.2.2.2.1 = 0) || decide (av_ty x.2.2.1 x.2.2.2.1 = .int)) && (decide ((own, idx, x.2.2.1, x.2.2.2.1) ∈ av_FT0) || decide ((own, idx, x.2.2.1, x.2.2.2.1) ∈ av_FT1)) &&
    (decide ((av_T x.2.2.1 x.2.2.2.1).2.2.2 = false) || (decide (own = x.2.2.1) && decide ((av_T x.2.2.1 x.2.2.2.1).1 = av_cn x.2.2.1) && decide (ini = true) && decide ((own, idx, x.2.2.1, x.2.2.2.1) ∈ av_FT0)))
  | .getstatic idx => decide ((own, idx) ∈ av_GT)
  | .newarray t => (match t with
    | .int => true
    | .byte => true
    | .boolean => true
    | _ => false)
  | .anewarray idx => decide ((own, idx, x.2.2.1) ∈ av_AT)
  | .multianewarray idx d => decide (d = 2) && decide ((own, idx) ∈ av_NT)
  | .new idx => decide (x.2.2.1 < 9) && decide ((own, idx, x.2.2.1) ∈ av_CT)
  | .checkcast idx => decide ((own, idx) ∈ av_XT)
  | .invokespecial idx => decide (x.2.2.1 < 1000) || (decide (x.2.2.1 = 1000) && decide ((own, 1000, idx) ∈ av_IT) && decide (1 ≤ fr) && decide (40 ≤ lo))
  | .invokestatic idx => decide (x.2.2.1 < 1000) || ((decide (x.2.2.1 = 1001) || decide (x.2.2.1 = 1002) || decide (x.2.2.1 = 1003)) && decide ((own, x.2.2.1, idx) ∈ av_IT) && decide (1 ≤ fr) && decide (40 ≤ lo))
  | .invokevirtual idx => decide (x.2.2.1 < 1000) || ((decide (x.2.2.1 = 1004) || decide (x.2.2.1 = 1005) || decide (x.2.2.1 = 1006)) && decide ((own, x.2.2.1, idx) ∈ av_IT) && decide (4 ≤ fr) && decide (120 ≤ lo))
  | _ => true)
theorem av_FTs {own idx ci k : Nat} (h : (own, idx, ci, k) ∈ av_FT0 ∨ (own, idx, ci, k) ∈ av_FT1) : av_FL own idx ci k := by
  rcases h with h | h
  · exact Or.inl (av_FT0_ok _ h)
  · exact Or.inr ⟨_, av_FT1_ok _ h⟩
set_option maxHeartbeats 2000000 in
theorem av_okB_ok {own : Nat} {cc : ByteArray} {ini : Bool} {fr lo pc : Nat} {x : av_E} (h : av_okB own cc ini fr lo pc x = true) : av_ok own cc ini fr lo pc x := by
  obtain ⟨ins, ln, xa, xb, xc, xk⟩ := x
  unfold av_okB at h
  rw [Bool.and_eq_true, decide_eq_true_eq] at h
  refine ⟨h.1, ?_⟩
  have h := h.2
  cases ins with
  | ldc idx =>
    simp only [Bool.or_eq_true, Bool.and_eq_true, decide_eq_true_eq, List.any_eq_true] at h
    rcases h with ⟨h1, h2⟩ | ⟨h1, q, hq, ⟨e1, e2⟩, e3⟩
    · exact Or.inl ⟨h1, av_KT_ok _ h2⟩
    · obtain ⟨q1, q2, q3, q4⟩ := q
      dsimp only at e1 e2 e3
      subst e1; subst e2; subst e3
      exact Or.inr ⟨h1, q4, hq⟩
  | ldc_w idx => exact av_KT_ok _ (of_decide_eq_true h)
  | ldc2_w idx => exact av_JT_ok _ (of_decide_eq_true h)
  | getfield idx =>
    simp only [Bool.or_eq_true, Bool.and_eq_true, decide_eq_true_eq] at h
    exact ⟨h.1.1.1, h.1.1.2, h.1.2, av_FTs h.2⟩
  | putfield idx =>
    simp only [Bool.or_eq_true, Bool.and_eq_true, decide_eq_true_eq] at h
    obtain ⟨⟨⟨⟨⟨h1, h2⟩, h3⟩, h4⟩, h5⟩, h6⟩ := h
    refine ⟨h1, h2, h3, fun q => ?_, av_FTs h5, ?_⟩
    · rcases h4 with h4 | h4
      · exact absurd q h4
      · exact h4
    · rcases h6 with h6 | ⟨⟨⟨h6, h7⟩, h8⟩, h9⟩
      · exact Or.inl h6
      · exact Or.inr ⟨h6, h7, h8, av_FT0_ok _ h9⟩
  | getstatic idx => exact ⟨_, av_GT_ok _ (of_decide_eq_true h)⟩
  | newarray t =>
    cases t with
    | int => exact av_f_acI
    | byte => exact av_f_ac_byte
    | boolean => exact av_f_ac_boolean
    | _ => cases h
  | anewarray idx => exact av_AT_ok _ (of_decide_eq_true h)
  | multianewarray idx d =>
    simp only [Bool.and_eq_true, decide_eq_true_eq] at h
    exact ⟨h.1, av_NT_ok _ h.2⟩
  | new idx =>
    simp only [Bool.and_eq_true, decide_eq_true_eq] at h
    exact ⟨h.1, av_CT_ok _ h.2⟩
  | checkcast idx => exact av_XT_ok _ (of_decide_eq_true h)
  | invokespecial idx =>
    simp only [Bool.or_eq_true, Bool.and_eq_true, decide_eq_true_eq] at h
    intro hk
    rcases h with h | ⟨⟨⟨h1, h2⟩, h3⟩, h4⟩
    · have hk : 1000 ≤ xa := hk
      omega
    · exact ⟨h1, av_IT_ok _ h2, h3, h4⟩
  | invokestatic idx =>
    simp only [Bool.or_eq_true, Bool.and_eq_true, decide_eq_true_eq] at h
    intro hk
    rcases h with h | ⟨⟨⟨h1, h2⟩, h3⟩, h4⟩
    · have hk : 1000 ≤ xa := hk
      omega
    · exact ⟨or_assoc.mp h1, av_IT_ok _ h2, h3, h4⟩
  | invokevirtual idx =>
    simp only [Bool.or_eq_true, Bool.and_eq_true, decide_eq_true_eq] at h
    intro hk
    rcases h with h | ⟨⟨⟨h1, h2⟩, h3⟩, h4⟩
    · have hk : 1000 ≤ xa := hk
      omega
    · exact ⟨or_assoc.mp h1, av_IT_ok _ h2, h3, h4⟩
  | tableswitch d low high offs =>
    simp only [Bool.and_eq_true, decide_eq_true_eq, List.all_eq_true] at h
    exact ⟨h.1.1, h.1.2, h.2⟩
  | lookupswitch d ps =>
    rw [Bool.and_eq_true, Bool.and_eq_true] at h
    refine ⟨h.1.1, of_decide_eq_true h.1.2, fun q hq => ?_⟩
    have := List.all_eq_true.mp h.2 q hq
    exact of_decide_eq_true this
  | bipush n => exact of_decide_eq_true h
  | sipush n => exact of_decide_eq_true h
  | goto off => exact of_decide_eq_true h
  | ifCond c off => exact of_decide_eq_true h
  | if_icmp c off => exact of_decide_eq_true h
  | ifnull off => exact of_decide_eq_true h
  | ifnonnull off => exact of_decide_eq_true h
  | _ => trivial
def av_rokB (rt : Option FieldType) (x : av_E) : Bool := match x.1 with
  | .return_ => decide (rt = none)
  | .ireturn => (decide (x.2.2.1 = 0) && decide (rt = some .int)) || (decide (x.2.2.1 = 1) && decide (rt = some .boolean))
  | .areturn => (match rt with
    | some (.object _) => true
    | some (.array _) => true
    | _ => false)
  | _ => true
theorem av_rokB_ok {rt : Option FieldType} {x : av_E} (h : av_rokB rt x = true) : av_rok rt x := by
  obtain ⟨ins, ln, xa, xb, xc, xk⟩ := x
  unfold av_rokB at h
  cases ins with
  | return_ => exact (of_decide_eq_true (p := rt = none) h)
  | ireturn =>
    simp only [Bool.or_eq_true, Bool.and_eq_true, decide_eq_true_eq] at h
    exact h
  | areturn =>
    dsimp only at h
    split at h
    · next n => exact ⟨_, rfl, Or.inl ⟨n, rfl⟩⟩
    · next n => exact ⟨_, rfl, Or.inr ⟨n, rfl⟩⟩
    · cases h
  | _ => trivial
def av_cokB (own fr lo : Nat) (x : av_E) : Bool := match av_TT x.2.2.1 with
  | none => false
  | some r => decide (r.2.2.2.2.2.1 = x.2.2.2.2.1) && decide (r.2.2.2.2.2.2.1 = x.2.2.2.1) && decide ((r.1 : Int) = x.2.2.2.2.2) && decide (r.2.2.2.2.2.2.2.1 + 1 ≤ fr) && decide (8 + (r.2.2.2.1 + 11) + r.2.2.2.2.2.2.2.2.1 ≤ lo) && (match x.1 with
    | .invokevirtual idx => decide (x.2.2.2.2.1 = 0) && decide ((own, idx, x.2.2.1) ∈ av_ML0)
    | .invokespecial idx => decide (x.2.2.2.2.1 = 1) && (decide ((own, idx, x.2.2.1) ∈ av_ML0) || decide ((own, idx, x.2.2.1) ∈ av_ML1))
    | .invokestatic idx => decide (x.2.2.2.2.1 = 2) && decide ((own, idx, x.2.2.1) ∈ av_ML0)
    | _ => true)
theorem av_cokB_ok {own fr lo : Nat} {x : av_E} (h : av_cokB own fr lo x = true) : av_cok av_TT own fr lo x := by
  unfold av_cokB at h
  split at h
  · cases h
  · next r hr =>
    simp only [Bool.and_eq_true, decide_eq_true_eq] at h
    obtain ⟨⟨⟨⟨⟨h1, h2⟩, h3⟩, h4⟩, h5⟩, h6⟩ := h
    have m0 : ∀ idx, (own, idx, x.2.2.1) ∈ av_ML0 → Cond.methodLink (av_cn own) idx r.2.1 ∈ lw_tbl := by
      intro idx hm
      obtain ⟨r', e1, e2⟩ := av_ML0_ok _ hm
      cases hr.symm.trans e1
      exact e2
    have m1 : ∀ idx, (own, idx, x.2.2.1) ∈ av_ML1 → Cond.methodLinkNest (av_cn own) idx r.2.1 "CrossingWords" ∈ lw_tbl := by
      intro idx hm
      obtain ⟨r', e1, e2⟩ := av_ML1_ok _ hm
      cases hr.symm.trans e1
      exact e2
    refine ⟨r, hr, h1, h2, h3, h4, h5, ?_⟩
    obtain ⟨ins, ln, xa, xb, xc, xk⟩ := x
    cases ins with
    | invokevirtual idx =>
      simp only [Bool.and_eq_true, decide_eq_true_eq] at h6
      exact ⟨h6.1, m0 idx h6.2⟩
    | invokespecial idx =>
      simp only [Bool.and_eq_true, Bool.or_eq_true, decide_eq_true_eq] at h6
      refine ⟨h6.1, ?_⟩
      rcases h6.2 with q | q
      · exact Or.inl (m0 idx q)
      · exact Or.inr ⟨_, m1 idx q⟩
    | invokestatic idx =>
      simp only [Bool.and_eq_true, decide_eq_true_eq] at h6
      exact ⟨h6.1, m0 idx h6.2⟩
    | _ => trivial
def av_dokB (r : av_Mr) : Bool := r.2.2.2.2.2.2.2.2.2.all (fun q => av_okB r.1 r.2.2.1 (decide (r.2.2.2.2.2.1 = 1)) r.2.2.2.2.2.2.2.1 r.2.2.2.2.2.2.2.2.1 q.1 q.2 && av_rokB r.2.2.2.2.1 q.2 && (if av_kd q.2 = 2 then av_cokB r.1 r.2.2.2.2.2.2.2.1 r.2.2.2.2.2.2.2.2.1 q.2 else true))
theorem av_dokB_ok {r : av_Mr} (h : av_dokB r = true) : av_dok av_TT r := by
  intro q hq
  have h1 := List.all_eq_true.mp h q hq
  simp only [Bool.and_eq_true] at h1
  refine ⟨av_okB_ok h1.1.1, av_rokB_ok h1.1.2, fun hk => av_cokB_ok ?_⟩
  have h2 := h1.2
  rw [if_pos hk] at h2
  exact h2
end
section
/-! THE TABLE HOLDS: methods -/
theorem av_memL {w : Cond} {i : Nat} (h : (k2_sels lw_privs)[i]? = some w) : w ∈ lw_tbl := List.mem_append_left _ (List.mem_of_getElem? h)
set_option maxRecDepth 100000 in
set_option maxHeartbeats 2000000 in
theorem hk_0 : av_hok ms_0 := ⟨by decide +kernel, rfl, av_mem (i := 187) rfl, av_mem (i := 11) rfl, ⟨by decide +kernel, by decide +kernel⟩, by decide +kernel, Or.inr (Or.inl ⟨rfl, rfl, av_mem (i := 186) rfl, rfl⟩)⟩
set_option maxRecDepth 100000 in
set_option maxHeartbeats 2000000 in
theorem hk_1 : av_hok ms_1 := ⟨by decide +kernel, rfl, av_mem (i := 597) rfl, av_mem (i := 11) rfl, ⟨by decide +kernel, by decide +kernel⟩, by decide +kernel, Or.inl ⟨rfl, by decide, av_mem (i := 595) rfl, av_mem (i := 596) rfl⟩⟩
set_option maxRecDepth 100000 in
set_option maxHeartbeats 2000000 in
theorem hk_2 : av_hok ms_2 := ⟨by decide +kernel, rfl, av_mem (i := 659) rfl, av_mem (i := 11) rfl, ⟨by decide +kernel, by decide +kernel⟩, by decide +kernel, Or.inl ⟨rfl, by decide, av_mem (i := 657) rfl, av_mem (i := 658) rfl⟩⟩
set_option maxRecDepth 100000 in
set_option maxHeartbeats 2000000 in
theorem hk_3 : av_hok ms_3 := ⟨by decide +kernel, rfl, av_mem (i := 702) rfl, av_mem (i := 11) rfl, ⟨by decide +kernel, by decide +kernel⟩, by decide +kernel, Or.inl ⟨rfl, by decide, av_mem (i := 700) rfl, av_mem (i := 701) rfl⟩⟩
set_option maxRecDepth 100000 in
set_option maxHeartbeats 2000000 in
theorem hk_4 : av_hok ms_4 := ⟨by decide +kernel, rfl, av_mem (i := 608) rfl, av_mem (i := 11) rfl, ⟨by decide +kernel, by decide +kernel⟩, by decide +kernel, Or.inl ⟨rfl, by decide, av_mem (i := 606) rfl, av_mem (i := 607) rfl⟩⟩
set_option maxRecDepth 100000 in
set_option maxHeartbeats 2000000 in
theorem hk_5 : av_hok ms_5 := ⟨by decide +kernel, rfl, av_mem (i := 613) rfl, av_mem (i := 11) rfl, ⟨by decide +kernel, by decide +kernel⟩, by decide +kernel, Or.inl ⟨rfl, by decide, av_mem (i := 612) rfl, av_memL (i := 12) rfl⟩⟩
set_option maxRecDepth 100000 in
set_option maxHeartbeats 2000000 in
theorem hk_6 : av_hok ms_6 := ⟨by decide +kernel, rfl, av_mem (i := 617) rfl, av_mem (i := 11) rfl, ⟨by decide +kernel, by decide +kernel⟩, by decide +kernel, Or.inl ⟨rfl, by decide, av_mem (i := 615) rfl, av_mem (i := 616) rfl⟩⟩
set_option maxRecDepth 100000 in
set_option maxHeartbeats 2000000 in
theorem hk_7 : av_hok ms_7 := ⟨by decide +kernel, rfl, av_mem (i := 664) rfl, av_mem (i := 11) rfl, ⟨by decide +kernel, by decide +kernel⟩, by decide +kernel, Or.inl ⟨rfl, by decide, av_mem (i := 663) rfl, av_memL (i := 16) rfl⟩⟩
set_option maxRecDepth 100000 in
set_option maxHeartbeats 2000000 in
theorem hk_8 : av_hok ms_8 := ⟨by decide +kernel, rfl, av_mem (i := 669) rfl, av_mem (i := 11) rfl, ⟨by decide +kernel, by decide +kernel⟩, by decide +kernel, Or.inl ⟨rfl, by decide, av_mem (i := 668) rfl, av_memL (i := 17) rfl⟩⟩
set_option maxRecDepth 100000 in
set_option maxHeartbeats 2000000 in
theorem hk_9 : av_hok ms_9 := ⟨by decide +kernel, rfl, av_mem (i := 673) rfl, av_mem (i := 11) rfl, ⟨by decide +kernel, by decide +kernel⟩, by decide +kernel, Or.inl ⟨rfl, by decide, av_mem (i := 672) rfl, av_memL (i := 18) rfl⟩⟩
set_option maxRecDepth 100000 in
set_option maxHeartbeats 2000000 in
theorem hk_10 : av_hok ms_10 := ⟨by decide +kernel, rfl, av_mem (i := 678) rfl, av_mem (i := 11) rfl, ⟨by decide +kernel, by decide +kernel⟩, by decide +kernel, Or.inl ⟨rfl, by decide, av_mem (i := 677) rfl, av_memL (i := 19) rfl⟩⟩
set_option maxRecDepth 100000 in
set_option maxHeartbeats 2000000 in
theorem hk_11 : av_hok ms_11 := ⟨by decide +kernel, rfl, av_mem (i := 682) rfl, av_mem (i := 11) rfl, ⟨by decide +kernel, by decide +kernel⟩, by decide +kernel, Or.inl ⟨rfl, by decide, av_mem (i := 681) rfl, av_memL (i := 20) rfl⟩⟩
set_option maxRecDepth 100000 in
set_option maxHeartbeats 2000000 in
theorem hk_12 : av_hok ms_12 := ⟨by decide +kernel, rfl, av_mem (i := 686) rfl, av_mem (i := 11) rfl, ⟨by decide +kernel, by decide +kernel⟩, by decide +kernel, Or.inl ⟨rfl, by decide, av_mem (i := 685) rfl, av_memL (i := 21) rfl⟩⟩
set_option maxRecDepth 100000 in
set_option maxHeartbeats 2000000 in
theorem hk_13 : av_hok ms_13 := ⟨by decide +kernel, rfl, av_mem (i := 690) rfl, av_mem (i := 11) rfl, ⟨by decide +kernel, by decide +kernel⟩, by decide +kernel, Or.inl ⟨rfl, by decide, av_mem (i := 689) rfl, av_memL (i := 22) rfl⟩⟩
set_option maxRecDepth 100000 in
set_option maxHeartbeats 2000000 in
theorem hk_14 : av_hok ms_14 := ⟨by decide +kernel, rfl, av_mem (i := 698) rfl, av_mem (i := 11) rfl, ⟨by decide +kernel, by decide +kernel⟩, by decide +kernel, Or.inl ⟨rfl, by decide, av_mem (i := 697) rfl, av_memL (i := 24) rfl⟩⟩
set_option maxRecDepth 100000 in
set_option maxHeartbeats 2000000 in
theorem hk_15 : av_hok ms_15 := ⟨by decide +kernel, rfl, av_mem (i := 718) rfl, av_mem (i := 11) rfl, ⟨by decide +kernel, by decide +kernel⟩, by decide +kernel, Or.inl ⟨rfl, by decide, av_mem (i := 716) rfl, av_mem (i := 717) rfl⟩⟩
set_option maxRecDepth 100000 in
set_option maxHeartbeats 2000000 in
theorem hk_16 : av_hok ms_16 := ⟨by decide +kernel, rfl, av_mem (i := 694) rfl, av_mem (i := 11) rfl, ⟨by decide +kernel, by decide +kernel⟩, by decide +kernel, Or.inl ⟨rfl, by decide, av_mem (i := 693) rfl, av_memL (i := 23) rfl⟩⟩
set_option maxRecDepth 100000 in
set_option maxHeartbeats 2000000 in
theorem hk_17 : av_hok ms_17 := ⟨by decide +kernel, rfl, av_mem (i := 706) rfl, av_mem (i := 11) rfl, ⟨by decide +kernel, by decide +kernel⟩, by decide +kernel, Or.inl ⟨rfl, by decide, av_mem (i := 704) rfl, av_mem (i := 705) rfl⟩⟩
set_option maxRecDepth 100000 in
set_option maxHeartbeats 2000000 in
theorem hk_18 : av_hok ms_18 := ⟨by decide +kernel, rfl, av_mem (i := 727) rfl, av_mem (i := 11) rfl, ⟨by decide +kernel, by decide +kernel⟩, by decide +kernel, Or.inl ⟨rfl, by decide, av_mem (i := 725) rfl, av_mem (i := 726) rfl⟩⟩
set_option maxRecDepth 100000 in
set_option maxHeartbeats 2000000 in
theorem hk_19 : av_hok ms_19 := ⟨by decide +kernel, rfl, av_mem (i := 766) rfl, av_mem (i := 11) rfl, ⟨by decide +kernel, by decide +kernel⟩, by decide +kernel, Or.inl ⟨rfl, by decide, av_mem (i := 764) rfl, av_mem (i := 765) rfl⟩⟩
set_option maxRecDepth 100000 in
set_option maxHeartbeats 2000000 in
theorem hk_20 : av_hok ms_20 := ⟨by decide +kernel, rfl, av_mem (i := 771) rfl, av_mem (i := 11) rfl, ⟨by decide +kernel, by decide +kernel⟩, by decide +kernel, Or.inl ⟨rfl, by decide, av_mem (i := 770) rfl, av_memL (i := 27) rfl⟩⟩
set_option maxRecDepth 100000 in
set_option maxHeartbeats 2000000 in
theorem hk_21 : av_hok ms_21 := ⟨by decide +kernel, rfl, av_mem (i := 828) rfl, av_mem (i := 11) rfl, ⟨by decide +kernel, by decide +kernel⟩, by decide +kernel, Or.inl ⟨rfl, by decide, av_mem (i := 826) rfl, av_mem (i := 827) rfl⟩⟩
set_option maxRecDepth 100000 in
set_option maxHeartbeats 2000000 in
theorem hk_22 : av_hok ms_22 := ⟨by decide +kernel, rfl, av_mem (i := 832) rfl, av_mem (i := 11) rfl, ⟨by decide +kernel, by decide +kernel⟩, by decide +kernel, Or.inl ⟨rfl, by decide, av_mem (i := 831) rfl, av_memL (i := 29) rfl⟩⟩
set_option maxRecDepth 100000 in
set_option maxHeartbeats 2000000 in
theorem hk_23 : av_hok ms_23 := ⟨by decide +kernel, rfl, av_mem (i := 843) rfl, av_mem (i := 11) rfl, ⟨by decide +kernel, by decide +kernel⟩, by decide +kernel, Or.inl ⟨rfl, by decide, av_mem (i := 841) rfl, av_mem (i := 842) rfl⟩⟩
set_option maxRecDepth 100000 in
set_option maxHeartbeats 2000000 in
theorem hk_24 : av_hok ms_24 := ⟨by decide +kernel, rfl, av_mem (i := 860) rfl, av_mem (i := 11) rfl, ⟨by decide +kernel, by decide +kernel⟩, by decide +kernel, Or.inl ⟨rfl, by decide, av_mem (i := 858) rfl, av_mem (i := 859) rfl⟩⟩
set_option maxRecDepth 100000 in
set_option maxHeartbeats 2000000 in
theorem hk_25 : av_hok ms_25 := ⟨by decide +kernel, rfl, av_mem (i := 847) rfl, av_mem (i := 11) rfl, ⟨by decide +kernel, by decide +kernel⟩, by decide +kernel, Or.inl ⟨rfl, by decide, av_mem (i := 846) rfl, av_memL (i := 30) rfl⟩⟩
set_option maxRecDepth 100000 in
set_option maxHeartbeats 2000000 in
theorem hk_26 : av_hok ms_26 := ⟨by decide +kernel, rfl, av_mem (i := 852) rfl, av_mem (i := 11) rfl, ⟨by decide +kernel, by decide +kernel⟩, by decide +kernel, Or.inl ⟨rfl, by decide, av_mem (i := 851) rfl, av_memL (i := 31) rfl⟩⟩
set_option maxRecDepth 100000 in
set_option maxHeartbeats 2000000 in
theorem hk_27 : av_hok ms_27 := ⟨by decide +kernel, rfl, av_mem (i := 137) rfl, av_mem (i := 7) rfl, ⟨by decide +kernel, by decide +kernel⟩, by decide +kernel, Or.inr (Or.inl ⟨rfl, rfl, av_mem (i := 136) rfl, rfl⟩)⟩
set_option maxRecDepth 100000 in
set_option maxHeartbeats 2000000 in
theorem hk_28 : av_hok ms_28 := ⟨by decide +kernel, rfl, av_mem (i := 576) rfl, av_mem (i := 7) rfl, ⟨by decide +kernel, by decide +kernel⟩, by decide +kernel, Or.inl ⟨rfl, by decide, av_mem (i := 574) rfl, av_mem (i := 575) rfl⟩⟩
set_option maxRecDepth 100000 in
set_option maxHeartbeats 2000000 in
theorem hk_29 : av_hok ms_29 := ⟨by decide +kernel, rfl, av_mem (i := 580) rfl, av_mem (i := 7) rfl, ⟨by decide +kernel, by decide +kernel⟩, by decide +kernel, Or.inl ⟨rfl, by decide, av_mem (i := 578) rfl, av_mem (i := 579) rfl⟩⟩
set_option maxRecDepth 100000 in
set_option maxHeartbeats 2000000 in
theorem hk_30 : av_hok ms_30 := ⟨by decide +kernel, rfl, av_mem (i := 603) rfl, av_mem (i := 7) rfl, ⟨by decide +kernel, by decide +kernel⟩, by decide +kernel, Or.inl ⟨rfl, by decide, av_mem (i := 601) rfl, av_mem (i := 602) rfl⟩⟩
set_option maxRecDepth 100000 in
set_option maxHeartbeats 2000000 in
theorem hk_31 : av_hok ms_31 := ⟨by decide +kernel, rfl, av_mem (i := 710) rfl, av_mem (i := 7) rfl, ⟨by decide +kernel, by decide +kernel⟩, by decide +kernel, Or.inl ⟨rfl, by decide, av_mem (i := 708) rfl, av_mem (i := 709) rfl⟩⟩
set_option maxRecDepth 100000 in
set_option maxHeartbeats 2000000 in
theorem hk_32 : av_hok ms_32 := ⟨by decide +kernel, rfl, av_mem (i := 868) rfl, av_mem (i := 7) rfl, ⟨by decide +kernel, by decide +kernel⟩, by decide +kernel, Or.inl ⟨rfl, by decide, av_mem (i := 866) rfl, av_mem (i := 867) rfl⟩⟩
set_option maxRecDepth 100000 in
set_option maxHeartbeats 2000000 in
theorem hk_33 : av_hok ms_33 := ⟨by decide +kernel, rfl, av_mem (i := 885) rfl, av_mem (i := 7) rfl, ⟨by decide +kernel, by decide +kernel⟩, by decide +kernel, Or.inl ⟨rfl, by decide, av_mem (i := 883) rfl, av_mem (i := 884) rfl⟩⟩
set_option maxRecDepth 100000 in
set_option maxHeartbeats 2000000 in
theorem hk_34 : av_hok ms_34 := ⟨by decide +kernel, rfl, av_mem (i := 101) rfl, av_mem (i := 4) rfl, ⟨by decide +kernel, by decide +kernel⟩, by decide +kernel, Or.inr (Or.inl ⟨rfl, rfl, av_mem (i := 100) rfl, rfl⟩)⟩
set_option maxRecDepth 100000 in
set_option maxHeartbeats 2000000 in
theorem hk_35 : av_hok ms_35 := ⟨by decide +kernel, rfl, av_mem (i := 344) rfl, av_mem (i := 4) rfl, ⟨by decide +kernel, by decide +kernel⟩, by decide +kernel, Or.inl ⟨rfl, by decide, av_mem (i := 342) rfl, av_mem (i := 343) rfl⟩⟩
set_option maxRecDepth 100000 in
set_option maxHeartbeats 2000000 in
theorem hk_36 : av_hok ms_36 := ⟨by decide +kernel, rfl, av_mem (i := 358) rfl, av_mem (i := 4) rfl, ⟨by decide +kernel, by decide +kernel⟩, by decide +kernel, Or.inl ⟨rfl, by decide, av_mem (i := 357) rfl, av_memL (i := 0) rfl⟩⟩
set_option maxRecDepth 100000 in
set_option maxHeartbeats 2000000 in
theorem hk_37 : av_hok ms_37 := ⟨by decide +kernel, rfl, av_mem (i := 427) rfl, av_mem (i := 4) rfl, ⟨by decide +kernel, by decide +kernel⟩, by decide +kernel, Or.inl ⟨rfl, by decide, av_mem (i := 426) rfl, av_memL (i := 1) rfl⟩⟩
set_option maxRecDepth 100000 in
set_option maxHeartbeats 2000000 in
theorem hk_38 : av_hok ms_38 := ⟨by decide +kernel, rfl, av_mem (i := 432) rfl, av_mem (i := 4) rfl, ⟨by decide +kernel, by decide +kernel⟩, by decide +kernel, Or.inl ⟨rfl, by decide, av_mem (i := 431) rfl, av_memL (i := 2) rfl⟩⟩
set_option maxRecDepth 100000 in
set_option maxHeartbeats 2000000 in
theorem hk_39 : av_hok ms_39 := ⟨by decide +kernel, rfl, av_mem (i := 440) rfl, av_mem (i := 4) rfl, ⟨by decide +kernel, by decide +kernel⟩, by decide +kernel, Or.inl ⟨rfl, by decide, av_mem (i := 439) rfl, av_memL (i := 3) rfl⟩⟩
set_option maxRecDepth 100000 in
set_option maxHeartbeats 2000000 in
theorem hk_40 : av_hok ms_40 := ⟨by decide +kernel, rfl, av_mem (i := 445) rfl, av_mem (i := 4) rfl, ⟨by decide +kernel, by decide +kernel⟩, by decide +kernel, Or.inl ⟨rfl, by decide, av_mem (i := 444) rfl, av_memL (i := 4) rfl⟩⟩
set_option maxRecDepth 100000 in
set_option maxHeartbeats 2000000 in
theorem hk_41 : av_hok ms_41 := ⟨by decide +kernel, rfl, av_mem (i := 466) rfl, av_mem (i := 4) rfl, ⟨by decide +kernel, by decide +kernel⟩, by decide +kernel, Or.inl ⟨rfl, by decide, av_mem (i := 465) rfl, av_memL (i := 6) rfl⟩⟩
set_option maxRecDepth 100000 in
set_option maxHeartbeats 2000000 in
theorem hk_42 : av_hok ms_42 := ⟨by decide +kernel, rfl, av_mem (i := 449) rfl, av_mem (i := 4) rfl, ⟨by decide +kernel, by decide +kernel⟩, by decide +kernel, Or.inl ⟨rfl, by decide, av_mem (i := 448) rfl, av_memL (i := 5) rfl⟩⟩
set_option maxRecDepth 100000 in
set_option maxHeartbeats 2000000 in
theorem hk_43 : av_hok ms_43 := ⟨by decide +kernel, rfl, av_mem (i := 470) rfl, av_mem (i := 4) rfl, ⟨by decide +kernel, by decide +kernel⟩, by decide +kernel, Or.inl ⟨rfl, by decide, av_mem (i := 469) rfl, av_memL (i := 7) rfl⟩⟩
set_option maxRecDepth 100000 in
set_option maxHeartbeats 2000000 in
theorem hk_44 : av_hok ms_44 := ⟨by decide +kernel, rfl, av_mem (i := 480) rfl, av_mem (i := 4) rfl, ⟨by decide +kernel, by decide +kernel⟩, by decide +kernel, Or.inl ⟨rfl, by decide, av_mem (i := 479) rfl, av_memL (i := 8) rfl⟩⟩
set_option maxRecDepth 100000 in
set_option maxHeartbeats 2000000 in
theorem hk_45 : av_hok ms_45 := ⟨by decide +kernel, rfl, av_mem (i := 131) rfl, av_mem (i := 6) rfl, ⟨by decide +kernel, by decide +kernel⟩, by decide +kernel, Or.inr (Or.inl ⟨rfl, rfl, av_mem (i := 130) rfl, rfl⟩)⟩
set_option maxRecDepth 100000 in
set_option maxHeartbeats 2000000 in
theorem hk_46 : av_hok ms_46 := ⟨by decide +kernel, rfl, av_mem (i := 510) rfl, av_mem (i := 6) rfl, ⟨by decide +kernel, by decide +kernel⟩, by decide +kernel, Or.inl ⟨rfl, by decide, av_mem (i := 508) rfl, av_mem (i := 509) rfl⟩⟩
set_option maxRecDepth 100000 in
set_option maxHeartbeats 2000000 in
theorem hk_47 : av_hok ms_47 := ⟨by decide +kernel, rfl, av_mem (i := 593) rfl, av_mem (i := 6) rfl, ⟨by decide +kernel, by decide +kernel⟩, by decide +kernel, Or.inl ⟨rfl, by decide, av_mem (i := 591) rfl, av_mem (i := 592) rfl⟩⟩
set_option maxRecDepth 100000 in
set_option maxHeartbeats 2000000 in
theorem hk_48 : av_hok ms_48 := ⟨by decide +kernel, rfl, av_mem (i := 633) rfl, av_mem (i := 6) rfl, ⟨by decide +kernel, by decide +kernel⟩, by decide +kernel, Or.inl ⟨rfl, by decide, av_mem (i := 631) rfl, av_mem (i := 632) rfl⟩⟩
set_option maxRecDepth 100000 in
set_option maxHeartbeats 2000000 in
theorem hk_49 : av_hok ms_49 := ⟨by decide +kernel, rfl, av_mem (i := 735) rfl, av_mem (i := 6) rfl, ⟨by decide +kernel, by decide +kernel⟩, by decide +kernel, Or.inl ⟨rfl, by decide, av_mem (i := 733) rfl, av_mem (i := 734) rfl⟩⟩
set_option maxRecDepth 100000 in
set_option maxHeartbeats 2000000 in
theorem hk_50 : av_hok ms_50 := ⟨by decide +kernel, rfl, av_mem (i := 783) rfl, av_mem (i := 6) rfl, ⟨by decide +kernel, by decide +kernel⟩, by decide +kernel, Or.inl ⟨rfl, by decide, av_mem (i := 781) rfl, av_mem (i := 782) rfl⟩⟩
set_option maxRecDepth 100000 in
set_option maxHeartbeats 2000000 in
theorem hk_51 : av_hok ms_51 := ⟨by decide +kernel, rfl, av_mem (i := 638) rfl, av_mem (i := 6) rfl, ⟨by decide +kernel, by decide +kernel⟩, by decide +kernel, Or.inl ⟨rfl, by decide, av_mem (i := 636) rfl, av_mem (i := 637) rfl⟩⟩
set_option maxRecDepth 100000 in
set_option maxHeartbeats 2000000 in
theorem hk_52 : av_hok ms_52 := ⟨by decide +kernel, rfl, av_mem (i := 643) rfl, av_mem (i := 6) rfl, ⟨by decide +kernel, by decide +kernel⟩, by decide +kernel, Or.inl ⟨rfl, by decide, av_mem (i := 642) rfl, av_memL (i := 13) rfl⟩⟩
set_option maxRecDepth 100000 in
set_option maxHeartbeats 2000000 in
theorem hk_53 : av_hok ms_53 := ⟨by decide +kernel, rfl, av_mem (i := 647) rfl, av_mem (i := 6) rfl, ⟨by decide +kernel, by decide +kernel⟩, by decide +kernel, Or.inl ⟨rfl, by decide, av_mem (i := 646) rfl, av_memL (i := 14) rfl⟩⟩
set_option maxRecDepth 100000 in
set_option maxHeartbeats 2000000 in
theorem hk_54 : av_hok ms_54 := ⟨by decide +kernel, rfl, av_mem (i := 651) rfl, av_mem (i := 6) rfl, ⟨by decide +kernel, by decide +kernel⟩, by decide +kernel, Or.inl ⟨rfl, by decide, av_mem (i := 650) rfl, av_memL (i := 15) rfl⟩⟩
set_option maxRecDepth 100000 in
set_option maxHeartbeats 2000000 in
theorem hk_55 : av_hok ms_55 := ⟨by decide +kernel, rfl, av_mem (i := 655) rfl, av_mem (i := 6) rfl, ⟨by decide +kernel, by decide +kernel⟩, by decide +kernel, Or.inr (Or.inr ⟨rfl, av_mem (i := 654) rfl⟩)⟩
set_option maxRecDepth 100000 in
set_option maxHeartbeats 2000000 in
theorem hk_56 : av_hok ms_56 := ⟨by decide +kernel, rfl, av_mem (i := 739) rfl, av_mem (i := 6) rfl, ⟨by decide +kernel, by decide +kernel⟩, by decide +kernel, Or.inl ⟨rfl, by decide, av_mem (i := 737) rfl, av_mem (i := 738) rfl⟩⟩
set_option maxRecDepth 100000 in
set_option maxHeartbeats 2000000 in
theorem hk_57 : av_hok ms_57 := ⟨by decide +kernel, rfl, av_mem (i := 744) rfl, av_mem (i := 6) rfl, ⟨by decide +kernel, by decide +kernel⟩, by decide +kernel, Or.inl ⟨rfl, by decide, av_mem (i := 743) rfl, av_memL (i := 25) rfl⟩⟩
set_option maxRecDepth 100000 in
set_option maxHeartbeats 2000000 in
theorem hk_58 : av_hok ms_58 := ⟨by decide +kernel, rfl, av_mem (i := 754) rfl, av_mem (i := 6) rfl, ⟨by decide +kernel, by decide +kernel⟩, by decide +kernel, Or.inl ⟨rfl, by decide, av_mem (i := 752) rfl, av_mem (i := 753) rfl⟩⟩
set_option maxRecDepth 100000 in
set_option maxHeartbeats 2000000 in
theorem hk_59 : av_hok ms_59 := ⟨by decide +kernel, rfl, av_mem (i := 758) rfl, av_mem (i := 6) rfl, ⟨by decide +kernel, by decide +kernel⟩, by decide +kernel, Or.inl ⟨rfl, by decide, av_mem (i := 757) rfl, av_memL (i := 26) rfl⟩⟩
set_option maxRecDepth 100000 in
set_option maxHeartbeats 2000000 in
theorem hk_60 : av_hok ms_60 := ⟨by decide +kernel, rfl, av_mem (i := 787) rfl, av_mem (i := 6) rfl, ⟨by decide +kernel, by decide +kernel⟩, by decide +kernel, Or.inl ⟨rfl, by decide, av_mem (i := 785) rfl, av_mem (i := 786) rfl⟩⟩
set_option maxRecDepth 100000 in
set_option maxHeartbeats 2000000 in
theorem hk_61 : av_hok ms_61 := ⟨by decide +kernel, rfl, av_mem (i := 797) rfl, av_mem (i := 6) rfl, ⟨by decide +kernel, by decide +kernel⟩, by decide +kernel, Or.inl ⟨rfl, by decide, av_mem (i := 795) rfl, av_mem (i := 796) rfl⟩⟩
set_option maxRecDepth 100000 in
set_option maxHeartbeats 2000000 in
theorem hk_62 : av_hok ms_62 := ⟨by decide +kernel, rfl, av_mem (i := 791) rfl, av_mem (i := 6) rfl, ⟨by decide +kernel, by decide +kernel⟩, by decide +kernel, Or.inl ⟨rfl, by decide, av_mem (i := 790) rfl, av_memL (i := 28) rfl⟩⟩
set_option maxRecDepth 100000 in
set_option maxHeartbeats 2000000 in
theorem hk_63 : av_hok ms_63 := ⟨by decide +kernel, rfl, av_mem (i := 815) rfl, av_mem (i := 6) rfl, ⟨by decide +kernel, by decide +kernel⟩, by decide +kernel, Or.inl ⟨rfl, by decide, av_mem (i := 813) rfl, av_mem (i := 814) rfl⟩⟩
set_option maxRecDepth 100000 in
set_option maxHeartbeats 2000000 in
theorem hk_64 : av_hok ms_64 := ⟨by decide +kernel, rfl, av_mem (i := 117) rfl, av_mem (i := 5) rfl, ⟨by decide +kernel, by decide +kernel⟩, by decide +kernel, Or.inr (Or.inl ⟨rfl, rfl, av_mem (i := 116) rfl, rfl⟩)⟩
set_option maxRecDepth 100000 in
set_option maxHeartbeats 2000000 in
theorem hk_65 : av_hok ms_65 := ⟨by decide +kernel, rfl, av_mem (i := 521) rfl, av_mem (i := 5) rfl, ⟨by decide +kernel, by decide +kernel⟩, by decide +kernel, Or.inl ⟨rfl, by decide, av_mem (i := 519) rfl, av_mem (i := 520) rfl⟩⟩
set_option maxRecDepth 100000 in
set_option maxHeartbeats 2000000 in
theorem hk_66 : av_hok ms_66 := ⟨by decide +kernel, rfl, av_mem (i := 528) rfl, av_mem (i := 5) rfl, ⟨by decide +kernel, by decide +kernel⟩, by decide +kernel, Or.inl ⟨rfl, by decide, av_mem (i := 527) rfl, av_memL (i := 10) rfl⟩⟩
set_option maxRecDepth 100000 in
set_option maxHeartbeats 2000000 in
theorem hk_67 : av_hok ms_67 := ⟨by decide +kernel, rfl, av_mem (i := 534) rfl, av_mem (i := 5) rfl, ⟨by decide +kernel, by decide +kernel⟩, by decide +kernel, Or.inl ⟨rfl, by decide, av_mem (i := 533) rfl, av_memL (i := 11) rfl⟩⟩
set_option maxRecDepth 100000 in
set_option maxHeartbeats 2000000 in
theorem hk_68 : av_hok ms_68 := ⟨by decide +kernel, rfl, av_mem (i := 63) rfl, av_mem (i := 3) rfl, ⟨by decide +kernel, by decide +kernel⟩, by decide +kernel, Or.inr (Or.inl ⟨rfl, rfl, av_mem (i := 62) rfl, rfl⟩)⟩
set_option maxRecDepth 100000 in
set_option maxHeartbeats 2000000 in
theorem hk_69 : av_hok ms_69 := ⟨by decide +kernel, rfl, av_mem (i := 506) rfl, av_mem (i := 3) rfl, ⟨by decide +kernel, by decide +kernel⟩, by decide +kernel, Or.inl ⟨rfl, by decide, av_mem (i := 504) rfl, av_mem (i := 505) rfl⟩⟩
set_option maxRecDepth 100000 in
set_option maxHeartbeats 2000000 in
theorem hk_70 : av_hok ms_70 := ⟨by decide +kernel, rfl, av_mem (i := 625) rfl, av_mem (i := 3) rfl, ⟨by decide +kernel, by decide +kernel⟩, by decide +kernel, Or.inl ⟨rfl, by decide, av_mem (i := 623) rfl, av_mem (i := 624) rfl⟩⟩
set_option maxRecDepth 100000 in
set_option maxHeartbeats 2000000 in
theorem hk_71 : av_hok ms_71 := ⟨by decide +kernel, rfl, av_mem (i := 498) rfl, av_mem (i := 3) rfl, ⟨by decide +kernel, by decide +kernel⟩, by decide +kernel, Or.inl ⟨rfl, by decide, av_mem (i := 496) rfl, av_mem (i := 497) rfl⟩⟩
set_option maxRecDepth 100000 in
set_option maxHeartbeats 2000000 in
theorem hk_72 : av_hok ms_72 := ⟨by decide +kernel, rfl, av_mem (i := 547) rfl, av_mem (i := 3) rfl, ⟨by decide +kernel, by decide +kernel⟩, by decide +kernel, Or.inl ⟨rfl, by decide, av_mem (i := 545) rfl, av_mem (i := 546) rfl⟩⟩
set_option maxRecDepth 100000 in
set_option maxHeartbeats 2000000 in
theorem hk_73 : av_hok ms_73 := ⟨by decide +kernel, rfl, av_mem (i := 561) rfl, av_mem (i := 3) rfl, ⟨by decide +kernel, by decide +kernel⟩, by decide +kernel, Or.inl ⟨rfl, by decide, av_mem (i := 559) rfl, av_mem (i := 560) rfl⟩⟩
set_option maxRecDepth 100000 in
set_option maxHeartbeats 2000000 in
theorem hk_74 : av_hok ms_74 := ⟨by decide +kernel, rfl, av_mem (i := 553) rfl, av_mem (i := 3) rfl, ⟨by decide +kernel, by decide +kernel⟩, by decide +kernel, Or.inr (Or.inr ⟨rfl, av_mem (i := 552) rfl⟩)⟩
set_option maxRecDepth 100000 in
set_option maxHeartbeats 2000000 in
theorem hk_75 : av_hok ms_75 := ⟨by decide +kernel, rfl, av_mem (i := 819) rfl, av_mem (i := 3) rfl, ⟨by decide +kernel, by decide +kernel⟩, by decide +kernel, Or.inl ⟨rfl, by decide, av_mem (i := 817) rfl, av_mem (i := 818) rfl⟩⟩
set_option maxRecDepth 100000 in
set_option maxHeartbeats 2000000 in
theorem hk_76 : av_hok ms_76 := ⟨by decide +kernel, rfl, av_mem (i := 906) rfl, av_mem (i := 3) rfl, ⟨by decide +kernel, by decide +kernel⟩, by decide +kernel, Or.inl ⟨rfl, by decide, av_mem (i := 904) rfl, av_mem (i := 905) rfl⟩⟩
set_option maxRecDepth 100000 in
set_option maxHeartbeats 2000000 in
theorem hk_77 : av_hok ms_77 := ⟨by decide +kernel, rfl, av_mem (i := 894) rfl, av_mem (i := 3) rfl, ⟨by decide +kernel, by decide +kernel⟩, by decide +kernel, Or.inl ⟨rfl, by decide, av_mem (i := 892) rfl, av_mem (i := 893) rfl⟩⟩
set_option maxRecDepth 100000 in
set_option maxHeartbeats 2000000 in
theorem hk_78 : av_hok ms_78 := ⟨by decide +kernel, rfl, av_mem (i := 30) rfl, av_mem (i := 2) rfl, ⟨by decide +kernel, by decide +kernel⟩, by decide +kernel, Or.inr (Or.inl ⟨rfl, rfl, av_mem (i := 29) rfl, rfl⟩)⟩
set_option maxRecDepth 100000 in
set_option maxHeartbeats 2000000 in
theorem hk_79 : av_hok ms_79 := ⟨by decide +kernel, rfl, av_mem (i := 320) rfl, av_mem (i := 2) rfl, ⟨by decide +kernel, by decide +kernel⟩, by decide +kernel, Or.inl ⟨rfl, by decide, av_mem (i := 318) rfl, av_mem (i := 319) rfl⟩⟩
set_option maxRecDepth 100000 in
set_option maxHeartbeats 2000000 in
theorem hk_80 : av_hok ms_80 := ⟨by decide +kernel, rfl, av_mem (i := 328) rfl, av_mem (i := 2) rfl, ⟨by decide +kernel, by decide +kernel⟩, by decide +kernel, Or.inl ⟨rfl, by decide, av_mem (i := 326) rfl, av_mem (i := 327) rfl⟩⟩
set_option maxRecDepth 100000 in
set_option maxHeartbeats 2000000 in
theorem hk_81 : av_hok ms_81 := ⟨by decide +kernel, rfl, av_mem (i := 332) rfl, av_mem (i := 2) rfl, ⟨by decide +kernel, by decide +kernel⟩, by decide +kernel, Or.inl ⟨rfl, by decide, av_mem (i := 330) rfl, av_mem (i := 331) rfl⟩⟩
set_option maxRecDepth 100000 in
set_option maxHeartbeats 2000000 in
theorem hk_82 : av_hok ms_82 := ⟨by decide +kernel, rfl, av_mem (i := 337) rfl, av_mem (i := 2) rfl, ⟨by decide +kernel, by decide +kernel⟩, by decide +kernel, Or.inl ⟨rfl, by decide, av_mem (i := 335) rfl, av_mem (i := 336) rfl⟩⟩
set_option maxRecDepth 100000 in
set_option maxHeartbeats 2000000 in
theorem hk_83 : av_hok ms_83 := ⟨by decide +kernel, rfl, av_mem (i := 340) rfl, av_mem (i := 2) rfl, ⟨by decide +kernel, by decide +kernel⟩, by decide +kernel, Or.inr (Or.inr ⟨rfl, av_mem (i := 339) rfl⟩)⟩
set_option maxRecDepth 100000 in
set_option maxHeartbeats 2000000 in
theorem hk_84 : av_hok ms_84 := ⟨by decide +kernel, rfl, av_mem (i := 350) rfl, av_mem (i := 2) rfl, ⟨by decide +kernel, by decide +kernel⟩, by decide +kernel, Or.inl ⟨rfl, by decide, av_mem (i := 348) rfl, av_mem (i := 349) rfl⟩⟩
set_option maxRecDepth 100000 in
set_option maxHeartbeats 2000000 in
theorem hk_85 : av_hok ms_85 := ⟨by decide +kernel, rfl, av_mem (i := 354) rfl, av_mem (i := 2) rfl, ⟨by decide +kernel, by decide +kernel⟩, by decide +kernel, Or.inl ⟨rfl, by decide, av_mem (i := 352) rfl, av_mem (i := 353) rfl⟩⟩
set_option maxRecDepth 100000 in
set_option maxHeartbeats 2000000 in
theorem hk_86 : av_hok ms_86 := ⟨by decide +kernel, rfl, av_mem (i := 373) rfl, av_mem (i := 2) rfl, ⟨by decide +kernel, by decide +kernel⟩, by decide +kernel, Or.inl ⟨rfl, by decide, av_mem (i := 371) rfl, av_mem (i := 372) rfl⟩⟩
set_option maxRecDepth 100000 in
set_option maxHeartbeats 2000000 in
theorem hk_87 : av_hok ms_87 := ⟨by decide +kernel, rfl, av_mem (i := 369) rfl, av_mem (i := 2) rfl, ⟨by decide +kernel, by decide +kernel⟩, by decide +kernel, Or.inl ⟨rfl, by decide, av_mem (i := 367) rfl, av_mem (i := 368) rfl⟩⟩
set_option maxRecDepth 100000 in
set_option maxHeartbeats 2000000 in
theorem hk_88 : av_hok ms_88 := ⟨by decide +kernel, rfl, av_mem (i := 460) rfl, av_mem (i := 2) rfl, ⟨by decide +kernel, by decide +kernel⟩, by decide +kernel, Or.inl ⟨rfl, by decide, av_mem (i := 458) rfl, av_mem (i := 459) rfl⟩⟩
set_option maxRecDepth 100000 in
set_option maxHeartbeats 2000000 in
theorem hk_89 : av_hok ms_89 := ⟨by decide +kernel, rfl, av_mem (i := 476) rfl, av_mem (i := 2) rfl, ⟨by decide +kernel, by decide +kernel⟩, by decide +kernel, Or.inl ⟨rfl, by decide, av_mem (i := 474) rfl, av_mem (i := 475) rfl⟩⟩
set_option maxRecDepth 100000 in
set_option maxHeartbeats 2000000 in
theorem hk_90 : av_hok ms_90 := ⟨by decide +kernel, rfl, av_mem (i := 488) rfl, av_mem (i := 2) rfl, ⟨by decide +kernel, by decide +kernel⟩, by decide +kernel, Or.inl ⟨rfl, by decide, av_mem (i := 486) rfl, av_mem (i := 487) rfl⟩⟩
set_option maxRecDepth 100000 in
set_option maxHeartbeats 2000000 in
theorem hk_91 : av_hok ms_91 := ⟨by decide +kernel, rfl, av_mem (i := 436) rfl, av_mem (i := 2) rfl, ⟨by decide +kernel, by decide +kernel⟩, by decide +kernel, Or.inl ⟨rfl, by decide, av_mem (i := 434) rfl, av_mem (i := 435) rfl⟩⟩
set_option maxRecDepth 100000 in
set_option maxHeartbeats 2000000 in
theorem hk_92 : av_hok ms_92 := ⟨by decide +kernel, rfl, av_mem (i := 454) rfl, av_mem (i := 2) rfl, ⟨by decide +kernel, by decide +kernel⟩, by decide +kernel, Or.inl ⟨rfl, by decide, av_mem (i := 452) rfl, av_mem (i := 453) rfl⟩⟩
set_option maxRecDepth 100000 in
set_option maxHeartbeats 2000000 in
theorem hk_93 : av_hok ms_93 := ⟨by decide +kernel, rfl, av_mem (i := 22) rfl, av_mem (i := 1) rfl, ⟨by decide +kernel, by decide +kernel⟩, by decide +kernel, Or.inr (Or.inl ⟨rfl, rfl, av_mem (i := 21) rfl, rfl⟩)⟩
set_option maxRecDepth 100000 in
set_option maxHeartbeats 2000000 in
theorem hk_94 : av_hok ms_94 := ⟨by decide +kernel, rfl, av_mem (i := 316) rfl, av_mem (i := 1) rfl, ⟨by decide +kernel, by decide +kernel⟩, by decide +kernel, Or.inl ⟨rfl, by decide, av_mem (i := 314) rfl, av_mem (i := 315) rfl⟩⟩
set_option maxRecDepth 100000 in
set_option maxHeartbeats 2000000 in
theorem hk_95 : av_hok ms_95 := ⟨by decide +kernel, rfl, av_mem (i := 324) rfl, av_mem (i := 1) rfl, ⟨by decide +kernel, by decide +kernel⟩, by decide +kernel, Or.inl ⟨rfl, by decide, av_mem (i := 322) rfl, av_mem (i := 323) rfl⟩⟩
set_option maxRecDepth 100000 in
set_option maxHeartbeats 2000000 in
theorem hk_96 : av_hok ms_96 := ⟨by decide +kernel, rfl, av_mem (i := 502) rfl, av_mem (i := 1) rfl, ⟨by decide +kernel, by decide +kernel⟩, by decide +kernel, Or.inl ⟨rfl, by decide, av_mem (i := 500) rfl, av_mem (i := 501) rfl⟩⟩
set_option maxRecDepth 100000 in
set_option maxHeartbeats 2000000 in
theorem hk_97 : av_hok ms_97 := ⟨by decide +kernel, rfl, av_mem (i := 517) rfl, av_mem (i := 1) rfl, ⟨by decide +kernel, by decide +kernel⟩, by decide +kernel, Or.inl ⟨rfl, by decide, av_mem (i := 515) rfl, av_mem (i := 516) rfl⟩⟩
set_option maxRecDepth 100000 in
set_option maxHeartbeats 2000000 in
theorem hk_98 : av_hok ms_98 := ⟨by decide +kernel, rfl, av_mem (i := 557) rfl, av_mem (i := 1) rfl, ⟨by decide +kernel, by decide +kernel⟩, by decide +kernel, Or.inl ⟨rfl, by decide, av_mem (i := 555) rfl, av_mem (i := 556) rfl⟩⟩
set_option maxRecDepth 100000 in
set_option maxHeartbeats 2000000 in
theorem hk_99 : av_hok ms_99 := ⟨by decide +kernel, rfl, av_mem (i := 494) rfl, av_mem (i := 1) rfl, ⟨by decide +kernel, by decide +kernel⟩, by decide +kernel, Or.inl ⟨rfl, by decide, av_mem (i := 493) rfl, av_memL (i := 9) rfl⟩⟩
set_option maxRecDepth 100000 in
set_option maxHeartbeats 2000000 in
theorem hk_100 : av_hok ms_100 := ⟨by decide +kernel, rfl, av_mem (i := 565) rfl, av_mem (i := 1) rfl, ⟨by decide +kernel, by decide +kernel⟩, by decide +kernel, Or.inl ⟨rfl, by decide, av_mem (i := 563) rfl, av_mem (i := 564) rfl⟩⟩
set_option maxRecDepth 100000 in
set_option maxHeartbeats 2000000 in
theorem hk_101 : av_hok ms_101 := ⟨by decide +kernel, rfl, av_mem (i := 569) rfl, av_mem (i := 1) rfl, ⟨by decide +kernel, by decide +kernel⟩, by decide +kernel, Or.inl ⟨rfl, by decide, av_mem (i := 567) rfl, av_mem (i := 568) rfl⟩⟩
set_option maxRecDepth 100000 in
set_option maxHeartbeats 2000000 in
theorem hk_102 : av_hok ms_102 := ⟨by decide +kernel, rfl, av_mem (i := 572) rfl, av_mem (i := 1) rfl, ⟨by decide +kernel, by decide +kernel⟩, by decide +kernel, Or.inr (Or.inr ⟨rfl, av_mem (i := 571) rfl⟩)⟩
set_option maxRecDepth 100000 in
set_option maxHeartbeats 2000000 in
theorem hk_103 : av_hok ms_103 := ⟨by decide +kernel, rfl, av_mem (i := 585) rfl, av_mem (i := 1) rfl, ⟨by decide +kernel, by decide +kernel⟩, by decide +kernel, Or.inl ⟨rfl, by decide, av_mem (i := 583) rfl, av_mem (i := 584) rfl⟩⟩
set_option maxRecDepth 100000 in
set_option maxHeartbeats 2000000 in
theorem hk_104 : av_hok ms_104 := ⟨by decide +kernel, rfl, av_mem (i := 589) rfl, av_mem (i := 1) rfl, ⟨by decide +kernel, by decide +kernel⟩, by decide +kernel, Or.inl ⟨rfl, by decide, av_mem (i := 587) rfl, av_mem (i := 588) rfl⟩⟩
set_option maxRecDepth 100000 in
set_option maxHeartbeats 2000000 in
theorem hk_105 : av_hok ms_105 := ⟨by decide +kernel, rfl, av_mem (i := 621) rfl, av_mem (i := 1) rfl, ⟨by decide +kernel, by decide +kernel⟩, by decide +kernel, Or.inl ⟨rfl, by decide, av_mem (i := 619) rfl, av_mem (i := 620) rfl⟩⟩
set_option maxRecDepth 100000 in
set_option maxHeartbeats 2000000 in
theorem hk_106 : av_hok ms_106 := ⟨by decide +kernel, rfl, av_mem (i := 629) rfl, av_mem (i := 1) rfl, ⟨by decide +kernel, by decide +kernel⟩, by decide +kernel, Or.inl ⟨rfl, by decide, av_mem (i := 627) rfl, av_mem (i := 628) rfl⟩⟩
set_option maxRecDepth 100000 in
set_option maxHeartbeats 2000000 in
theorem hk_107 : av_hok ms_107 := ⟨by decide +kernel, rfl, av_mem (i := 714) rfl, av_mem (i := 1) rfl, ⟨by decide +kernel, by decide +kernel⟩, by decide +kernel, Or.inl ⟨rfl, by decide, av_mem (i := 712) rfl, av_mem (i := 713) rfl⟩⟩
set_option maxRecDepth 100000 in
set_option maxHeartbeats 2000000 in
theorem hk_108 : av_hok ms_108 := ⟨by decide +kernel, rfl, av_mem (i := 723) rfl, av_mem (i := 1) rfl, ⟨by decide +kernel, by decide +kernel⟩, by decide +kernel, Or.inl ⟨rfl, by decide, av_mem (i := 721) rfl, av_mem (i := 722) rfl⟩⟩
set_option maxRecDepth 100000 in
set_option maxHeartbeats 2000000 in
theorem hk_109 : av_hok ms_109 := ⟨by decide +kernel, rfl, av_mem (i := 731) rfl, av_mem (i := 1) rfl, ⟨by decide +kernel, by decide +kernel⟩, by decide +kernel, Or.inl ⟨rfl, by decide, av_mem (i := 729) rfl, av_mem (i := 730) rfl⟩⟩
set_option maxRecDepth 100000 in
set_option maxHeartbeats 2000000 in
theorem hk_110 : av_hok ms_110 := ⟨by decide +kernel, rfl, av_mem (i := 750) rfl, av_mem (i := 1) rfl, ⟨by decide +kernel, by decide +kernel⟩, by decide +kernel, Or.inl ⟨rfl, by decide, av_mem (i := 748) rfl, av_mem (i := 749) rfl⟩⟩
set_option maxRecDepth 100000 in
set_option maxHeartbeats 2000000 in
theorem hk_111 : av_hok ms_111 := ⟨by decide +kernel, rfl, av_mem (i := 762) rfl, av_mem (i := 1) rfl, ⟨by decide +kernel, by decide +kernel⟩, by decide +kernel, Or.inl ⟨rfl, by decide, av_mem (i := 760) rfl, av_mem (i := 761) rfl⟩⟩
set_option maxRecDepth 100000 in
set_option maxHeartbeats 2000000 in
theorem hk_112 : av_hok ms_112 := ⟨by decide +kernel, rfl, av_mem (i := 775) rfl, av_mem (i := 1) rfl, ⟨by decide +kernel, by decide +kernel⟩, by decide +kernel, Or.inl ⟨rfl, by decide, av_mem (i := 773) rfl, av_mem (i := 774) rfl⟩⟩
set_option maxRecDepth 100000 in
set_option maxHeartbeats 2000000 in
theorem hk_113 : av_hok ms_113 := ⟨by decide +kernel, rfl, av_mem (i := 779) rfl, av_mem (i := 1) rfl, ⟨by decide +kernel, by decide +kernel⟩, by decide +kernel, Or.inl ⟨rfl, by decide, av_mem (i := 777) rfl, av_mem (i := 778) rfl⟩⟩
set_option maxRecDepth 100000 in
set_option maxHeartbeats 2000000 in
theorem hk_114 : av_hok ms_114 := ⟨by decide +kernel, rfl, av_mem (i := 801) rfl, av_mem (i := 1) rfl, ⟨by decide +kernel, by decide +kernel⟩, by decide +kernel, Or.inl ⟨rfl, by decide, av_mem (i := 799) rfl, av_mem (i := 800) rfl⟩⟩
set_option maxRecDepth 100000 in
set_option maxHeartbeats 2000000 in
theorem hk_115 : av_hok ms_115 := ⟨by decide +kernel, rfl, av_mem (i := 805) rfl, av_mem (i := 1) rfl, ⟨by decide +kernel, by decide +kernel⟩, by decide +kernel, Or.inl ⟨rfl, by decide, av_mem (i := 803) rfl, av_mem (i := 804) rfl⟩⟩
set_option maxRecDepth 100000 in
set_option maxHeartbeats 2000000 in
theorem hk_116 : av_hok ms_116 := ⟨by decide +kernel, rfl, av_mem (i := 824) rfl, av_mem (i := 1) rfl, ⟨by decide +kernel, by decide +kernel⟩, by decide +kernel, Or.inl ⟨rfl, by decide, av_mem (i := 822) rfl, av_mem (i := 823) rfl⟩⟩
set_option maxRecDepth 100000 in
set_option maxHeartbeats 2000000 in
theorem hk_117 : av_hok ms_117 := ⟨by decide +kernel, rfl, av_mem (i := 836) rfl, av_mem (i := 1) rfl, ⟨by decide +kernel, by decide +kernel⟩, by decide +kernel, Or.inl ⟨rfl, by decide, av_mem (i := 834) rfl, av_mem (i := 835) rfl⟩⟩
set_option maxRecDepth 100000 in
set_option maxHeartbeats 2000000 in
theorem hk_118 : av_hok ms_118 := ⟨by decide +kernel, rfl, av_mem (i := 856) rfl, av_mem (i := 1) rfl, ⟨by decide +kernel, by decide +kernel⟩, by decide +kernel, Or.inl ⟨rfl, by decide, av_mem (i := 854) rfl, av_mem (i := 855) rfl⟩⟩
set_option maxRecDepth 100000 in
set_option maxHeartbeats 2000000 in
theorem hk_119 : av_hok ms_119 := ⟨by decide +kernel, rfl, av_mem (i := 839) rfl, av_mem (i := 1) rfl, ⟨by decide +kernel, by decide +kernel⟩, by decide +kernel, Or.inr (Or.inr ⟨rfl, av_mem (i := 838) rfl⟩)⟩
set_option maxRecDepth 100000 in
set_option maxHeartbeats 2000000 in
theorem hk_120 : av_hok ms_120 := ⟨by decide +kernel, rfl, av_mem (i := 864) rfl, av_mem (i := 1) rfl, ⟨by decide +kernel, by decide +kernel⟩, by decide +kernel, Or.inl ⟨rfl, by decide, av_mem (i := 862) rfl, av_mem (i := 863) rfl⟩⟩
set_option maxRecDepth 100000 in
set_option maxHeartbeats 2000000 in
theorem hk_121 : av_hok ms_121 := ⟨by decide +kernel, rfl, av_mem (i := 881) rfl, av_mem (i := 1) rfl, ⟨by decide +kernel, by decide +kernel⟩, by decide +kernel, Or.inl ⟨rfl, by decide, av_mem (i := 879) rfl, av_mem (i := 880) rfl⟩⟩
set_option maxRecDepth 100000 in
set_option maxHeartbeats 2000000 in
theorem hk_122 : av_hok ms_122 := ⟨by decide +kernel, rfl, av_mem (i := 876) rfl, av_mem (i := 1) rfl, ⟨by decide +kernel, by decide +kernel⟩, by decide +kernel, Or.inl ⟨rfl, by decide, av_mem (i := 875) rfl, av_memL (i := 32) rfl⟩⟩
set_option maxRecDepth 100000 in
set_option maxHeartbeats 2000000 in
theorem hk_123 : av_hok ms_123 := ⟨by decide +kernel, rfl, av_mem (i := 890) rfl, av_mem (i := 1) rfl, ⟨by decide +kernel, by decide +kernel⟩, by decide +kernel, Or.inl ⟨rfl, by decide, av_mem (i := 888) rfl, av_mem (i := 889) rfl⟩⟩
set_option maxRecDepth 100000 in
set_option maxHeartbeats 2000000 in
theorem hk_124 : av_hok ms_124 := ⟨by decide +kernel, rfl, av_mem (i := 898) rfl, av_mem (i := 1) rfl, ⟨by decide +kernel, by decide +kernel⟩, by decide +kernel, Or.inl ⟨rfl, by decide, av_mem (i := 896) rfl, av_mem (i := 897) rfl⟩⟩
set_option maxRecDepth 100000 in
set_option maxHeartbeats 2000000 in
theorem hk_125 : av_hok ms_125 := ⟨by decide +kernel, rfl, av_mem (i := 902) rfl, av_mem (i := 1) rfl, ⟨by decide +kernel, by decide +kernel⟩, by decide +kernel, Or.inl ⟨rfl, by decide, av_mem (i := 900) rfl, av_mem (i := 901) rfl⟩⟩
set_option maxRecDepth 100000 in
set_option maxHeartbeats 2000000 in
theorem hk_126 : av_hok ms_126 := ⟨by decide +kernel, rfl, av_mem (i := 912) rfl, av_mem (i := 12) rfl, ⟨by decide +kernel, by decide +kernel⟩, by decide +kernel, Or.inr (Or.inl ⟨rfl, rfl, av_mem (i := 911) rfl, rfl⟩)⟩
set_option maxRecDepth 100000 in
set_option maxHeartbeats 2000000 in
theorem hk_127 : av_hok ms_127 := ⟨by decide +kernel, rfl, av_mem (i := 1127) rfl, av_mem (i := 12) rfl, ⟨by decide +kernel, by decide +kernel⟩, by decide +kernel, Or.inr (Or.inr ⟨rfl, av_mem (i := 1126) rfl⟩)⟩
set_option maxRecDepth 100000 in
set_option maxHeartbeats 2000000 in
theorem hk_128 : av_hok ms_128 := ⟨by decide +kernel, rfl, av_mem (i := 1107) rfl, av_mem (i := 12) rfl, ⟨by decide +kernel, by decide +kernel⟩, by decide +kernel, Or.inl ⟨rfl, by decide, av_mem (i := 1105) rfl, av_mem (i := 1106) rfl⟩⟩
set_option maxRecDepth 100000 in
set_option maxHeartbeats 2000000 in
theorem hk_129 : av_hok ms_129 := ⟨by decide +kernel, rfl, av_mem (i := 1123) rfl, av_mem (i := 12) rfl, ⟨by decide +kernel, by decide +kernel⟩, by decide +kernel, Or.inl ⟨rfl, by decide, av_mem (i := 1122) rfl, av_memL (i := 35) rfl⟩⟩
set_option maxRecDepth 100000 in
set_option maxHeartbeats 2000000 in
theorem hk_130 : av_hok ms_130 := ⟨by decide +kernel, rfl, av_mem (i := 1119) rfl, av_mem (i := 12) rfl, ⟨by decide +kernel, by decide +kernel⟩, by decide +kernel, Or.inl ⟨rfl, by decide, av_mem (i := 1118) rfl, av_memL (i := 34) rfl⟩⟩
set_option maxRecDepth 100000 in
set_option maxHeartbeats 2000000 in
theorem hk_131 : av_hok ms_131 := ⟨by decide +kernel, rfl, av_mem (i := 1137) rfl, av_mem (i := 12) rfl, ⟨by decide +kernel, by decide +kernel⟩, by decide +kernel, Or.inl ⟨rfl, by decide, av_mem (i := 1136) rfl, av_memL (i := 37) rfl⟩⟩
set_option maxRecDepth 100000 in
set_option maxHeartbeats 2000000 in
theorem hk_132 : av_hok ms_132 := ⟨by decide +kernel, rfl, av_mem (i := 1187) rfl, av_mem (i := 12) rfl, ⟨by decide +kernel, by decide +kernel⟩, by decide +kernel, Or.inl ⟨rfl, by decide, av_mem (i := 1186) rfl, av_memL (i := 46) rfl⟩⟩
set_option maxRecDepth 100000 in
set_option maxHeartbeats 2000000 in
theorem hk_133 : av_hok ms_133 := ⟨by decide +kernel, rfl, av_mem (i := 1205) rfl, av_mem (i := 12) rfl, ⟨by decide +kernel, by decide +kernel⟩, by decide +kernel, Or.inl ⟨rfl, by decide, av_mem (i := 1204) rfl, av_memL (i := 49) rfl⟩⟩
set_option maxRecDepth 100000 in
set_option maxHeartbeats 2000000 in
theorem hk_134 : av_hok ms_134 := ⟨by decide +kernel, rfl, av_mem (i := 1182) rfl, av_mem (i := 12) rfl, ⟨by decide +kernel, by decide +kernel⟩, by decide +kernel, Or.inl ⟨rfl, by decide, av_mem (i := 1181) rfl, av_memL (i := 45) rfl⟩⟩
set_option maxRecDepth 100000 in
set_option maxHeartbeats 2000000 in
theorem hk_135 : av_hok ms_135 := ⟨by decide +kernel, rfl, av_mem (i := 1217) rfl, av_mem (i := 12) rfl, ⟨by decide +kernel, by decide +kernel⟩, by decide +kernel, Or.inl ⟨rfl, by decide, av_mem (i := 1216) rfl, av_memL (i := 51) rfl⟩⟩
set_option maxRecDepth 100000 in
set_option maxHeartbeats 2000000 in
theorem hk_136 : av_hok ms_136 := ⟨by decide +kernel, rfl, av_mem (i := 1115) rfl, av_mem (i := 12) rfl, ⟨by decide +kernel, by decide +kernel⟩, by decide +kernel, Or.inl ⟨rfl, by decide, av_mem (i := 1114) rfl, av_memL (i := 33) rfl⟩⟩
set_option maxRecDepth 100000 in
set_option maxHeartbeats 2000000 in
theorem hk_137 : av_hok ms_137 := ⟨by decide +kernel, rfl, av_mem (i := 1156) rfl, av_mem (i := 12) rfl, ⟨by decide +kernel, by decide +kernel⟩, by decide +kernel, Or.inl ⟨rfl, by decide, av_mem (i := 1155) rfl, av_memL (i := 40) rfl⟩⟩
set_option maxRecDepth 100000 in
set_option maxHeartbeats 2000000 in
theorem hk_138 : av_hok ms_138 := ⟨by decide +kernel, rfl, av_mem (i := 1173) rfl, av_mem (i := 12) rfl, ⟨by decide +kernel, by decide +kernel⟩, by decide +kernel, Or.inl ⟨rfl, by decide, av_mem (i := 1172) rfl, av_memL (i := 44) rfl⟩⟩
set_option maxRecDepth 100000 in
set_option maxHeartbeats 2000000 in
theorem hk_139 : av_hok ms_139 := ⟨by decide +kernel, rfl, av_mem (i := 1145) rfl, av_mem (i := 12) rfl, ⟨by decide +kernel, by decide +kernel⟩, by decide +kernel, Or.inl ⟨rfl, by decide, av_mem (i := 1144) rfl, av_memL (i := 39) rfl⟩⟩
set_option maxRecDepth 100000 in
set_option maxHeartbeats 2000000 in
theorem hk_140 : av_hok ms_140 := ⟨by decide +kernel, rfl, av_mem (i := 1197) rfl, av_mem (i := 12) rfl, ⟨by decide +kernel, by decide +kernel⟩, by decide +kernel, Or.inl ⟨rfl, by decide, av_mem (i := 1196) rfl, av_memL (i := 48) rfl⟩⟩
set_option maxRecDepth 100000 in
set_option maxHeartbeats 2000000 in
theorem hk_141 : av_hok ms_141 := ⟨by decide +kernel, rfl, av_mem (i := 1169) rfl, av_mem (i := 12) rfl, ⟨by decide +kernel, by decide +kernel⟩, by decide +kernel, Or.inl ⟨rfl, by decide, av_mem (i := 1168) rfl, av_memL (i := 43) rfl⟩⟩
set_option maxRecDepth 100000 in
set_option maxHeartbeats 2000000 in
theorem hk_142 : av_hok ms_142 := ⟨by decide +kernel, rfl, av_mem (i := 1209) rfl, av_mem (i := 12) rfl, ⟨by decide +kernel, by decide +kernel⟩, by decide +kernel, Or.inl ⟨rfl, by decide, av_mem (i := 1208) rfl, av_memL (i := 50) rfl⟩⟩
set_option maxRecDepth 100000 in
set_option maxHeartbeats 2000000 in
theorem hk_143 : av_hok ms_143 := ⟨by decide +kernel, rfl, av_mem (i := 1193) rfl, av_mem (i := 12) rfl, ⟨by decide +kernel, by decide +kernel⟩, by decide +kernel, Or.inl ⟨rfl, by decide, av_mem (i := 1192) rfl, av_memL (i := 47) rfl⟩⟩
set_option maxRecDepth 100000 in
set_option maxHeartbeats 2000000 in
theorem hk_144 : av_hok ms_144 := ⟨by decide +kernel, rfl, av_mem (i := 1165) rfl, av_mem (i := 12) rfl, ⟨by decide +kernel, by decide +kernel⟩, by decide +kernel, Or.inl ⟨rfl, by decide, av_mem (i := 1164) rfl, av_memL (i := 42) rfl⟩⟩
set_option maxRecDepth 100000 in
set_option maxHeartbeats 2000000 in
theorem hk_145 : av_hok ms_145 := ⟨by decide +kernel, rfl, av_mem (i := 1161) rfl, av_mem (i := 12) rfl, ⟨by decide +kernel, by decide +kernel⟩, by decide +kernel, Or.inl ⟨rfl, by decide, av_mem (i := 1160) rfl, av_memL (i := 41) rfl⟩⟩
set_option maxRecDepth 100000 in
set_option maxHeartbeats 2000000 in
theorem hk_146 : av_hok ms_146 := ⟨by decide +kernel, rfl, av_mem (i := 1141) rfl, av_mem (i := 12) rfl, ⟨by decide +kernel, by decide +kernel⟩, by decide +kernel, Or.inl ⟨rfl, by decide, av_mem (i := 1140) rfl, av_memL (i := 38) rfl⟩⟩
set_option maxRecDepth 100000 in
set_option maxHeartbeats 2000000 in
theorem hk_147 : av_hok ms_147 := ⟨by decide +kernel, rfl, av_mem (i := 1133) rfl, av_mem (i := 12) rfl, ⟨by decide +kernel, by decide +kernel⟩, by decide +kernel, Or.inl ⟨rfl, by decide, av_mem (i := 1132) rfl, av_memL (i := 36) rfl⟩⟩
set_option maxRecDepth 100000 in
set_option maxHeartbeats 2000000 in
theorem hk_148 : av_hok ms_148 := ⟨by decide +kernel, rfl, av_mem (i := 1111) rfl, av_mem (i := 12) rfl, ⟨by decide +kernel, by decide +kernel⟩, by decide +kernel, Or.inl ⟨rfl, by decide, av_mem (i := 1109) rfl, av_mem (i := 1110) rfl⟩⟩
set_option maxRecDepth 100000 in
set_option maxHeartbeats 2000000 in
theorem hk_149 : av_hok ms_149 := ⟨by decide +kernel, rfl, av_mem (i := 1225) rfl, av_mem (i := 12) rfl, ⟨by decide +kernel, by decide +kernel⟩, by decide +kernel, Or.inl ⟨rfl, by decide, av_mem (i := 1224) rfl, av_memL (i := 52) rfl⟩⟩
set_option maxRecDepth 100000 in
set_option maxHeartbeats 2000000 in
theorem hk_150 : av_hok ms_150 := ⟨by decide +kernel, rfl, av_mem (i := 1276) rfl, av_mem (i := 12) rfl, ⟨by decide +kernel, by decide +kernel⟩, by decide +kernel, Or.inl ⟨rfl, by decide, av_mem (i := 1275) rfl, av_memL (i := 57) rfl⟩⟩
set_option maxRecDepth 100000 in
set_option maxHeartbeats 2000000 in
theorem hk_151 : av_hok ms_151 := ⟨by decide +kernel, rfl, av_mem (i := 1221) rfl, av_mem (i := 12) rfl, ⟨by decide +kernel, by decide +kernel⟩, by decide +kernel, Or.inl ⟨rfl, by decide, av_mem (i := 1219) rfl, av_mem (i := 1220) rfl⟩⟩
set_option maxRecDepth 100000 in
set_option maxHeartbeats 2000000 in
theorem hk_152 : av_hok ms_152 := ⟨by decide +kernel, rfl, av_mem (i := 1246) rfl, av_mem (i := 12) rfl, ⟨by decide +kernel, by decide +kernel⟩, by decide +kernel, Or.inl ⟨rfl, by decide, av_mem (i := 1245) rfl, av_memL (i := 56) rfl⟩⟩
set_option maxRecDepth 100000 in
set_option maxHeartbeats 2000000 in
theorem hk_153 : av_hok ms_153 := ⟨by decide +kernel, rfl, av_mem (i := 1242) rfl, av_mem (i := 12) rfl, ⟨by decide +kernel, by decide +kernel⟩, by decide +kernel, Or.inl ⟨rfl, by decide, av_mem (i := 1241) rfl, av_memL (i := 55) rfl⟩⟩
set_option maxRecDepth 100000 in
set_option maxHeartbeats 2000000 in
theorem hk_154 : av_hok ms_154 := ⟨by decide +kernel, rfl, av_mem (i := 1237) rfl, av_mem (i := 12) rfl, ⟨by decide +kernel, by decide +kernel⟩, by decide +kernel, Or.inl ⟨rfl, by decide, av_mem (i := 1236) rfl, av_memL (i := 54) rfl⟩⟩
set_option maxRecDepth 100000 in
set_option maxHeartbeats 2000000 in
theorem hk_155 : av_hok ms_155 := ⟨by decide +kernel, rfl, av_mem (i := 1233) rfl, av_mem (i := 12) rfl, ⟨by decide +kernel, by decide +kernel⟩, by decide +kernel, Or.inl ⟨rfl, by decide, av_mem (i := 1232) rfl, av_memL (i := 53) rfl⟩⟩
set_option maxRecDepth 100000 in
set_option maxHeartbeats 2000000 in
theorem hk_156 : av_hok ms_156 := ⟨by decide +kernel, rfl, av_mem (i := 1229) rfl, av_mem (i := 12) rfl, ⟨by decide +kernel, by decide +kernel⟩, by decide +kernel, Or.inl ⟨rfl, by decide, av_mem (i := 1227) rfl, av_mem (i := 1228) rfl⟩⟩
set_option maxRecDepth 100000 in
set_option maxHeartbeats 2000000 in
theorem hk_157 : av_hok ms_157 := ⟨by decide +kernel, rfl, av_mem (i := 1264) rfl, av_mem (i := 12) rfl, ⟨by decide +kernel, by decide +kernel⟩, by decide +kernel, Or.inl ⟨rfl, by decide, av_mem (i := 1262) rfl, av_mem (i := 1263) rfl⟩⟩
set_option maxRecDepth 100000 in
set_option maxHeartbeats 2000000 in
theorem hk_158 : av_hok ms_158 := ⟨by decide +kernel, rfl, av_mem (i := 1268) rfl, av_mem (i := 12) rfl, ⟨by decide +kernel, by decide +kernel⟩, by decide +kernel, Or.inl ⟨rfl, by decide, av_mem (i := 1266) rfl, av_mem (i := 1267) rfl⟩⟩
set_option maxRecDepth 100000 in
set_option maxHeartbeats 2000000 in
theorem hk_159 : av_hok ms_159 := ⟨by decide +kernel, rfl, av_mem (i := 1280) rfl, av_mem (i := 12) rfl, ⟨by decide +kernel, by decide +kernel⟩, by decide +kernel, Or.inl ⟨rfl, by decide, av_mem (i := 1279) rfl, av_memL (i := 58) rfl⟩⟩
set_option maxRecDepth 100000 in
set_option maxHeartbeats 2000000 in
theorem hk_160 : av_hok ms_160 := ⟨by decide +kernel, rfl, av_mem (i := 1272) rfl, av_mem (i := 12) rfl, ⟨by decide +kernel, by decide +kernel⟩, by decide +kernel, Or.inl ⟨rfl, by decide, av_mem (i := 1270) rfl, av_mem (i := 1271) rfl⟩⟩
set_option maxRecDepth 100000 in
set_option maxHeartbeats 2000000 in
theorem hk_161 : av_hok ms_161 := ⟨by decide +kernel, rfl, av_mem (i := 1284) rfl, av_mem (i := 12) rfl, ⟨by decide +kernel, by decide +kernel⟩, by decide +kernel, Or.inl ⟨rfl, by decide, av_mem (i := 1282) rfl, av_mem (i := 1283) rfl⟩⟩
set_option maxRecDepth 100000 in
set_option maxHeartbeats 2000000 in
theorem hk_162 : av_hok ms_162 := ⟨by decide +kernel, rfl, av_mem (i := 1296) rfl, av_mem (i := 12) rfl, ⟨by decide +kernel, by decide +kernel⟩, by decide +kernel, Or.inl ⟨rfl, by decide, av_mem (i := 1295) rfl, av_memL (i := 60) rfl⟩⟩
set_option maxRecDepth 100000 in
set_option maxHeartbeats 2000000 in
theorem hk_163 : av_hok ms_163 := ⟨by decide +kernel, rfl, av_mem (i := 1300) rfl, av_mem (i := 12) rfl, ⟨by decide +kernel, by decide +kernel⟩, by decide +kernel, Or.inl ⟨rfl, by decide, av_mem (i := 1299) rfl, av_memL (i := 61) rfl⟩⟩
set_option maxRecDepth 100000 in
set_option maxHeartbeats 2000000 in
theorem hk_164 : av_hok ms_164 := ⟨by decide +kernel, rfl, av_mem (i := 1304) rfl, av_mem (i := 12) rfl, ⟨by decide +kernel, by decide +kernel⟩, by decide +kernel, Or.inl ⟨rfl, by decide, av_mem (i := 1303) rfl, av_memL (i := 62) rfl⟩⟩
set_option maxRecDepth 100000 in
set_option maxHeartbeats 2000000 in
theorem hk_165 : av_hok ms_165 := ⟨by decide +kernel, rfl, av_mem (i := 1312) rfl, av_mem (i := 12) rfl, ⟨by decide +kernel, by decide +kernel⟩, by decide +kernel, Or.inl ⟨rfl, by decide, av_mem (i := 1311) rfl, av_memL (i := 63) rfl⟩⟩
set_option maxRecDepth 100000 in
set_option maxHeartbeats 2000000 in
theorem hk_166 : av_hok ms_166 := ⟨by decide +kernel, rfl, av_mem (i := 1316) rfl, av_mem (i := 12) rfl, ⟨by decide +kernel, by decide +kernel⟩, by decide +kernel, Or.inl ⟨rfl, by decide, av_mem (i := 1315) rfl, av_memL (i := 64) rfl⟩⟩
set_option maxRecDepth 100000 in
set_option maxHeartbeats 2000000 in
theorem hk_167 : av_hok ms_167 := ⟨by decide +kernel, rfl, av_mem (i := 1348) rfl, av_mem (i := 12) rfl, ⟨by decide +kernel, by decide +kernel⟩, by decide +kernel, Or.inl ⟨rfl, by decide, av_mem (i := 1347) rfl, av_memL (i := 71) rfl⟩⟩
set_option maxRecDepth 100000 in
set_option maxHeartbeats 2000000 in
theorem hk_168 : av_hok ms_168 := ⟨by decide +kernel, rfl, av_mem (i := 1344) rfl, av_mem (i := 12) rfl, ⟨by decide +kernel, by decide +kernel⟩, by decide +kernel, Or.inl ⟨rfl, by decide, av_mem (i := 1343) rfl, av_memL (i := 70) rfl⟩⟩
set_option maxRecDepth 100000 in
set_option maxHeartbeats 2000000 in
theorem hk_169 : av_hok ms_169 := ⟨by decide +kernel, rfl, av_mem (i := 1364) rfl, av_mem (i := 12) rfl, ⟨by decide +kernel, by decide +kernel⟩, by decide +kernel, Or.inl ⟨rfl, by decide, av_mem (i := 1363) rfl, av_memL (i := 75) rfl⟩⟩
set_option maxRecDepth 100000 in
set_option maxHeartbeats 2000000 in
theorem hk_170 : av_hok ms_170 := ⟨by decide +kernel, rfl, av_mem (i := 1372) rfl, av_mem (i := 12) rfl, ⟨by decide +kernel, by decide +kernel⟩, by decide +kernel, Or.inl ⟨rfl, by decide, av_mem (i := 1371) rfl, av_memL (i := 77) rfl⟩⟩
set_option maxRecDepth 100000 in
set_option maxHeartbeats 2000000 in
theorem hk_171 : av_hok ms_171 := ⟨by decide +kernel, rfl, av_mem (i := 1352) rfl, av_mem (i := 12) rfl, ⟨by decide +kernel, by decide +kernel⟩, by decide +kernel, Or.inl ⟨rfl, by decide, av_mem (i := 1351) rfl, av_memL (i := 72) rfl⟩⟩
set_option maxRecDepth 100000 in
set_option maxHeartbeats 2000000 in
theorem hk_172 : av_hok ms_172 := ⟨by decide +kernel, rfl, av_mem (i := 1360) rfl, av_mem (i := 12) rfl, ⟨by decide +kernel, by decide +kernel⟩, by decide +kernel, Or.inl ⟨rfl, by decide, av_mem (i := 1359) rfl, av_memL (i := 74) rfl⟩⟩
set_option maxRecDepth 100000 in
set_option maxHeartbeats 2000000 in
theorem hk_173 : av_hok ms_173 := ⟨by decide +kernel, rfl, av_mem (i := 1356) rfl, av_mem (i := 12) rfl, ⟨by decide +kernel, by decide +kernel⟩, by decide +kernel, Or.inl ⟨rfl, by decide, av_mem (i := 1355) rfl, av_memL (i := 73) rfl⟩⟩
set_option maxRecDepth 100000 in
set_option maxHeartbeats 2000000 in
theorem hk_174 : av_hok ms_174 := ⟨by decide +kernel, rfl, av_mem (i := 1340) rfl, av_mem (i := 12) rfl, ⟨by decide +kernel, by decide +kernel⟩, by decide +kernel, Or.inl ⟨rfl, by decide, av_mem (i := 1339) rfl, av_memL (i := 69) rfl⟩⟩
set_option maxRecDepth 100000 in
set_option maxHeartbeats 2000000 in
theorem hk_175 : av_hok ms_175 := ⟨by decide +kernel, rfl, av_mem (i := 1384) rfl, av_mem (i := 12) rfl, ⟨by decide +kernel, by decide +kernel⟩, by decide +kernel, Or.inl ⟨rfl, by decide, av_mem (i := 1383) rfl, av_memL (i := 80) rfl⟩⟩
set_option maxRecDepth 100000 in
set_option maxHeartbeats 2000000 in
theorem hk_176 : av_hok ms_176 := ⟨by decide +kernel, rfl, av_mem (i := 1376) rfl, av_mem (i := 12) rfl, ⟨by decide +kernel, by decide +kernel⟩, by decide +kernel, Or.inl ⟨rfl, by decide, av_mem (i := 1375) rfl, av_memL (i := 78) rfl⟩⟩
set_option maxRecDepth 100000 in
set_option maxHeartbeats 2000000 in
theorem hk_177 : av_hok ms_177 := ⟨by decide +kernel, rfl, av_mem (i := 1380) rfl, av_mem (i := 12) rfl, ⟨by decide +kernel, by decide +kernel⟩, by decide +kernel, Or.inl ⟨rfl, by decide, av_mem (i := 1379) rfl, av_memL (i := 79) rfl⟩⟩
set_option maxRecDepth 100000 in
set_option maxHeartbeats 2000000 in
theorem hk_178 : av_hok ms_178 := ⟨by decide +kernel, rfl, av_mem (i := 1388) rfl, av_mem (i := 12) rfl, ⟨by decide +kernel, by decide +kernel⟩, by decide +kernel, Or.inl ⟨rfl, by decide, av_mem (i := 1387) rfl, av_memL (i := 81) rfl⟩⟩
set_option maxRecDepth 100000 in
set_option maxHeartbeats 2000000 in
theorem hk_179 : av_hok ms_179 := ⟨by decide +kernel, rfl, av_mem (i := 1392) rfl, av_mem (i := 12) rfl, ⟨by decide +kernel, by decide +kernel⟩, by decide +kernel, Or.inl ⟨rfl, by decide, av_mem (i := 1391) rfl, av_memL (i := 82) rfl⟩⟩
set_option maxRecDepth 100000 in
set_option maxHeartbeats 2000000 in
theorem hk_180 : av_hok ms_180 := ⟨by decide +kernel, rfl, av_mem (i := 1368) rfl, av_mem (i := 12) rfl, ⟨by decide +kernel, by decide +kernel⟩, by decide +kernel, Or.inl ⟨rfl, by decide, av_mem (i := 1367) rfl, av_memL (i := 76) rfl⟩⟩
set_option maxRecDepth 100000 in
set_option maxHeartbeats 2000000 in
theorem hk_181 : av_hok ms_181 := ⟨by decide +kernel, rfl, av_mem (i := 1336) rfl, av_mem (i := 12) rfl, ⟨by decide +kernel, by decide +kernel⟩, by decide +kernel, Or.inl ⟨rfl, by decide, av_mem (i := 1335) rfl, av_memL (i := 68) rfl⟩⟩
set_option maxRecDepth 100000 in
set_option maxHeartbeats 2000000 in
theorem hk_182 : av_hok ms_182 := ⟨by decide +kernel, rfl, av_mem (i := 1400) rfl, av_mem (i := 12) rfl, ⟨by decide +kernel, by decide +kernel⟩, by decide +kernel, Or.inl ⟨rfl, by decide, av_mem (i := 1399) rfl, av_memL (i := 84) rfl⟩⟩
set_option maxRecDepth 100000 in
set_option maxHeartbeats 2000000 in
theorem hk_183 : av_hok ms_183 := ⟨by decide +kernel, rfl, av_mem (i := 1396) rfl, av_mem (i := 12) rfl, ⟨by decide +kernel, by decide +kernel⟩, by decide +kernel, Or.inl ⟨rfl, by decide, av_mem (i := 1395) rfl, av_memL (i := 83) rfl⟩⟩
set_option maxRecDepth 100000 in
set_option maxHeartbeats 2000000 in
theorem hk_184 : av_hok ms_184 := ⟨by decide +kernel, rfl, av_mem (i := 1332) rfl, av_mem (i := 12) rfl, ⟨by decide +kernel, by decide +kernel⟩, by decide +kernel, Or.inl ⟨rfl, by decide, av_mem (i := 1331) rfl, av_memL (i := 67) rfl⟩⟩
set_option maxRecDepth 100000 in
set_option maxHeartbeats 2000000 in
theorem hk_185 : av_hok ms_185 := ⟨by decide +kernel, rfl, av_mem (i := 1328) rfl, av_mem (i := 12) rfl, ⟨by decide +kernel, by decide +kernel⟩, by decide +kernel, Or.inl ⟨rfl, by decide, av_mem (i := 1327) rfl, av_memL (i := 66) rfl⟩⟩
set_option maxRecDepth 100000 in
set_option maxHeartbeats 2000000 in
theorem hk_186 : av_hok ms_186 := ⟨by decide +kernel, rfl, av_mem (i := 1324) rfl, av_mem (i := 12) rfl, ⟨by decide +kernel, by decide +kernel⟩, by decide +kernel, Or.inl ⟨rfl, by decide, av_mem (i := 1323) rfl, av_memL (i := 65) rfl⟩⟩
set_option maxRecDepth 100000 in
set_option maxHeartbeats 2000000 in
theorem hk_187 : av_hok ms_187 := ⟨by decide +kernel, rfl, av_mem (i := 1288) rfl, av_mem (i := 12) rfl, ⟨by decide +kernel, by decide +kernel⟩, by decide +kernel, Or.inl ⟨rfl, by decide, av_mem (i := 1286) rfl, av_mem (i := 1287) rfl⟩⟩
set_option maxRecDepth 100000 in
set_option maxHeartbeats 2000000 in
theorem hk_188 : av_hok ms_188 := ⟨by decide +kernel, rfl, av_mem (i := 1292) rfl, av_mem (i := 12) rfl, ⟨by decide +kernel, by decide +kernel⟩, by decide +kernel, Or.inl ⟨rfl, by decide, av_mem (i := 1291) rfl, av_memL (i := 59) rfl⟩⟩
set_option maxRecDepth 100000 in
set_option maxHeartbeats 2000000 in
theorem hk_189 : av_hok ms_189 := ⟨by decide +kernel, rfl, av_mem (i := 1308) rfl, av_mem (i := 12) rfl, ⟨by decide +kernel, by decide +kernel⟩, by decide +kernel, Or.inl ⟨rfl, by decide, av_mem (i := 1306) rfl, av_mem (i := 1307) rfl⟩⟩
set_option maxRecDepth 100000 in
set_option maxHeartbeats 2000000 in
theorem hk_190 : av_hok ms_190 := ⟨by decide +kernel, rfl, av_mem (i := 1320) rfl, av_mem (i := 12) rfl, ⟨by decide +kernel, by decide +kernel⟩, by decide +kernel, Or.inl ⟨rfl, by decide, av_mem (i := 1318) rfl, av_mem (i := 1319) rfl⟩⟩
set_option maxRecDepth 100000 in
set_option maxHeartbeats 2000000 in
theorem hk_191 : av_hok ms_191 := ⟨by decide +kernel, rfl, av_mem (i := 1404) rfl, av_mem (i := 12) rfl, ⟨by decide +kernel, by decide +kernel⟩, by decide +kernel, Or.inl ⟨rfl, by decide, av_mem (i := 1402) rfl, av_mem (i := 1403) rfl⟩⟩
set_option maxRecDepth 100000 in
set_option maxHeartbeats 2000000 in
theorem hk_192 : av_hok ms_192 := ⟨by decide +kernel, rfl, av_mem (i := 1408) rfl, av_mem (i := 12) rfl, ⟨by decide +kernel, by decide +kernel⟩, by decide +kernel, Or.inl ⟨rfl, by decide, av_mem (i := 1406) rfl, av_mem (i := 1407) rfl⟩⟩
set_option maxRecDepth 100000 in
set_option maxHeartbeats 2000000 in
theorem hk_193 : av_hok ms_193 := ⟨by decide +kernel, rfl, av_mem (i := 1412) rfl, av_mem (i := 12) rfl, ⟨by decide +kernel, by decide +kernel⟩, by decide +kernel, Or.inl ⟨rfl, by decide, av_mem (i := 1410) rfl, av_mem (i := 1411) rfl⟩⟩
set_option maxRecDepth 100000 in
set_option maxHeartbeats 2000000 in
theorem hk_194 : av_hok ms_194 := ⟨by decide +kernel, rfl, av_mem (i := 1419) rfl, av_mem (i := 12) rfl, ⟨by decide +kernel, by decide +kernel⟩, by decide +kernel, Or.inr (Or.inr ⟨rfl, av_mem (i := 1418) rfl⟩)⟩
set_option maxRecDepth 100000 in
set_option maxHeartbeats 2000000 in
theorem hk_195 : av_hok ms_195 := ⟨by decide +kernel, rfl, av_mem (i := 1427) rfl, av_mem (i := 12) rfl, ⟨by decide +kernel, by decide +kernel⟩, by decide +kernel, Or.inl ⟨rfl, by decide, av_mem (i := 1426) rfl, av_memL (i := 86) rfl⟩⟩
set_option maxRecDepth 100000 in
set_option maxHeartbeats 2000000 in
theorem hk_196 : av_hok ms_196 := ⟨by decide +kernel, rfl, av_mem (i := 1423) rfl, av_mem (i := 12) rfl, ⟨by decide +kernel, by decide +kernel⟩, by decide +kernel, Or.inl ⟨rfl, by decide, av_mem (i := 1422) rfl, av_memL (i := 85) rfl⟩⟩
set_option maxRecDepth 100000 in
set_option maxHeartbeats 2000000 in
theorem hk_197 : av_hok ms_197 := ⟨by decide +kernel, rfl, av_mem (i := 1416) rfl, av_mem (i := 12) rfl, ⟨by decide +kernel, by decide +kernel⟩, by decide +kernel, Or.inl ⟨rfl, by decide, av_mem (i := 1414) rfl, av_mem (i := 1415) rfl⟩⟩
set_option maxRecDepth 100000 in
set_option maxHeartbeats 2000000 in
theorem hk_198 : av_hok ms_198 := ⟨by decide +kernel, rfl, av_mem (i := 1431) rfl, av_mem (i := 12) rfl, ⟨by decide +kernel, by decide +kernel⟩, by decide +kernel, Or.inl ⟨rfl, by decide, av_mem (i := 1429) rfl, av_mem (i := 1430) rfl⟩⟩
set_option maxRecDepth 100000 in
set_option maxHeartbeats 2000000 in
theorem hk_199 : av_hok ms_199 := ⟨by decide +kernel, rfl, av_mem (i := 1435) rfl, av_mem (i := 12) rfl, ⟨by decide +kernel, by decide +kernel⟩, by decide +kernel, Or.inl ⟨rfl, by decide, av_mem (i := 1433) rfl, av_mem (i := 1434) rfl⟩⟩
set_option maxRecDepth 100000 in
set_option maxHeartbeats 2000000 in
theorem hk_200 : av_hok ms_200 := ⟨by decide +kernel, rfl, av_mem (i := 1443) rfl, av_mem (i := 12) rfl, ⟨by decide +kernel, by decide +kernel⟩, by decide +kernel, Or.inl ⟨rfl, by decide, av_mem (i := 1442) rfl, av_memL (i := 87) rfl⟩⟩
set_option maxRecDepth 100000 in
set_option maxHeartbeats 2000000 in
theorem hk_201 : av_hok ms_201 := ⟨by decide +kernel, rfl, av_mem (i := 1439) rfl, av_mem (i := 12) rfl, ⟨by decide +kernel, by decide +kernel⟩, by decide +kernel, Or.inl ⟨rfl, by decide, av_mem (i := 1437) rfl, av_mem (i := 1438) rfl⟩⟩
set_option maxRecDepth 100000 in
set_option maxHeartbeats 2000000 in
theorem hk_202 : av_hok ms_202 := ⟨by decide +kernel, rfl, av_mem (i := 1447) rfl, av_mem (i := 12) rfl, ⟨by decide +kernel, by decide +kernel⟩, by decide +kernel, Or.inl ⟨rfl, by decide, av_mem (i := 1445) rfl, av_mem (i := 1446) rfl⟩⟩
set_option maxRecDepth 100000 in
set_option maxHeartbeats 2000000 in
theorem hk_203 : av_hok ms_203 := ⟨by decide +kernel, rfl, av_mem (i := 1455) rfl, av_mem (i := 12) rfl, ⟨by decide +kernel, by decide +kernel⟩, by decide +kernel, Or.inl ⟨rfl, by decide, av_mem (i := 1454) rfl, av_memL (i := 88) rfl⟩⟩
set_option maxRecDepth 100000 in
set_option maxHeartbeats 2000000 in
theorem hk_204 : av_hok ms_204 := ⟨by decide +kernel, rfl, av_mem (i := 1451) rfl, av_mem (i := 12) rfl, ⟨by decide +kernel, by decide +kernel⟩, by decide +kernel, Or.inl ⟨rfl, by decide, av_mem (i := 1449) rfl, av_mem (i := 1450) rfl⟩⟩
set_option maxRecDepth 100000 in
set_option maxHeartbeats 2000000 in
theorem hk_205 : av_hok ms_205 := ⟨by decide +kernel, rfl, av_mem (i := 1459) rfl, av_mem (i := 12) rfl, ⟨by decide +kernel, by decide +kernel⟩, by decide +kernel, Or.inl ⟨rfl, by decide, av_mem (i := 1457) rfl, av_mem (i := 1458) rfl⟩⟩
set_option maxRecDepth 100000 in
set_option maxHeartbeats 2000000 in
theorem hk_206 : av_hok ms_206 := ⟨by decide +kernel, rfl, av_mem (i := 1467) rfl, av_mem (i := 12) rfl, ⟨by decide +kernel, by decide +kernel⟩, by decide +kernel, Or.inl ⟨rfl, by decide, av_mem (i := 1466) rfl, av_memL (i := 89) rfl⟩⟩
set_option maxRecDepth 100000 in
set_option maxHeartbeats 2000000 in
theorem hk_207 : av_hok ms_207 := ⟨by decide +kernel, rfl, av_mem (i := 1463) rfl, av_mem (i := 12) rfl, ⟨by decide +kernel, by decide +kernel⟩, by decide +kernel, Or.inl ⟨rfl, by decide, av_mem (i := 1461) rfl, av_mem (i := 1462) rfl⟩⟩
set_option maxRecDepth 100000 in
set_option maxHeartbeats 2000000 in
theorem hk_208 : av_hok ms_208 := ⟨by decide +kernel, rfl, av_mem (i := 1471) rfl, av_mem (i := 12) rfl, ⟨by decide +kernel, by decide +kernel⟩, by decide +kernel, Or.inl ⟨rfl, by decide, av_mem (i := 1469) rfl, av_mem (i := 1470) rfl⟩⟩
set_option maxRecDepth 100000 in
set_option maxHeartbeats 2000000 in
theorem hk_209 : av_hok ms_209 := ⟨by decide +kernel, rfl, av_mem (i := 1483) rfl, av_mem (i := 12) rfl, ⟨by decide +kernel, by decide +kernel⟩, by decide +kernel, Or.inl ⟨rfl, by decide, av_mem (i := 1482) rfl, av_memL (i := 91) rfl⟩⟩
set_option maxRecDepth 100000 in
set_option maxHeartbeats 2000000 in
theorem hk_210 : av_hok ms_210 := ⟨by decide +kernel, rfl, av_mem (i := 1479) rfl, av_mem (i := 12) rfl, ⟨by decide +kernel, by decide +kernel⟩, by decide +kernel, Or.inl ⟨rfl, by decide, av_mem (i := 1478) rfl, av_memL (i := 90) rfl⟩⟩
set_option maxRecDepth 100000 in
set_option maxHeartbeats 2000000 in
theorem hk_211 : av_hok ms_211 := ⟨by decide +kernel, rfl, av_mem (i := 1475) rfl, av_mem (i := 12) rfl, ⟨by decide +kernel, by decide +kernel⟩, by decide +kernel, Or.inl ⟨rfl, by decide, av_mem (i := 1473) rfl, av_mem (i := 1474) rfl⟩⟩
set_option maxRecDepth 100000 in
set_option maxHeartbeats 2000000 in
theorem hk_212 : av_hok ms_212 := ⟨by decide +kernel, rfl, av_mem (i := 1487) rfl, av_mem (i := 12) rfl, ⟨by decide +kernel, by decide +kernel⟩, by decide +kernel, Or.inl ⟨rfl, by decide, av_mem (i := 1485) rfl, av_mem (i := 1486) rfl⟩⟩
set_option maxRecDepth 100000 in
set_option maxHeartbeats 2000000 in
theorem hk_213 : av_hok ms_213 := ⟨by decide +kernel, rfl, av_mem (i := 1495) rfl, av_mem (i := 12) rfl, ⟨by decide +kernel, by decide +kernel⟩, by decide +kernel, Or.inl ⟨rfl, by decide, av_mem (i := 1494) rfl, av_memL (i := 92) rfl⟩⟩
set_option maxRecDepth 100000 in
set_option maxHeartbeats 2000000 in
theorem hk_214 : av_hok ms_214 := ⟨by decide +kernel, rfl, av_mem (i := 1491) rfl, av_mem (i := 12) rfl, ⟨by decide +kernel, by decide +kernel⟩, by decide +kernel, Or.inl ⟨rfl, by decide, av_mem (i := 1489) rfl, av_mem (i := 1490) rfl⟩⟩
set_option maxRecDepth 100000 in
set_option maxHeartbeats 2000000 in
theorem hk_215 : av_hok ms_215 := ⟨by decide +kernel, rfl, av_mem (i := 1499) rfl, av_mem (i := 12) rfl, ⟨by decide +kernel, by decide +kernel⟩, by decide +kernel, Or.inl ⟨rfl, by decide, av_mem (i := 1497) rfl, av_mem (i := 1498) rfl⟩⟩
set_option maxRecDepth 100000 in
set_option maxHeartbeats 2000000 in
theorem hk_216 : av_hok ms_216 := ⟨by decide +kernel, rfl, av_mem (i := 1507) rfl, av_mem (i := 12) rfl, ⟨by decide +kernel, by decide +kernel⟩, by decide +kernel, Or.inl ⟨rfl, by decide, av_mem (i := 1506) rfl, av_memL (i := 93) rfl⟩⟩
set_option maxRecDepth 100000 in
set_option maxHeartbeats 2000000 in
theorem hk_217 : av_hok ms_217 := ⟨by decide +kernel, rfl, av_mem (i := 1503) rfl, av_mem (i := 12) rfl, ⟨by decide +kernel, by decide +kernel⟩, by decide +kernel, Or.inl ⟨rfl, by decide, av_mem (i := 1501) rfl, av_mem (i := 1502) rfl⟩⟩
set_option maxRecDepth 100000 in
set_option maxHeartbeats 2000000 in
theorem hk_218 : av_hok ms_218 := ⟨by decide +kernel, rfl, av_mem (i := 808) rfl, av_mem (i := 17) rfl, ⟨by decide +kernel, by decide +kernel⟩, by decide +kernel, Or.inr (Or.inr ⟨rfl, av_mem (i := 807) rfl⟩)⟩
set_option maxRecDepth 100000 in
set_option maxHeartbeats 2000000 in
theorem hk_219 : av_hok ms_219 := ⟨by decide +kernel, rfl, av_mem (i := 364) rfl, av_mem (i := 8) rfl, ⟨by decide +kernel, by decide +kernel⟩, by decide +kernel, Or.inr (Or.inr ⟨rfl, av_mem (i := 363) rfl⟩)⟩
set_option maxRecDepth 100000 in
set_option maxHeartbeats 2000000 in
theorem hk_220 : av_hok ms_220 := ⟨by decide +kernel, rfl, av_mem (i := 513) rfl, av_mem (i := 8) rfl, ⟨by decide +kernel, by decide +kernel⟩, by decide +kernel, Or.inr (Or.inr ⟨rfl, av_mem (i := 512) rfl⟩)⟩
set_option maxRecDepth 100000 in
set_option maxHeartbeats 2000000 in
theorem hk_221 : av_hok ms_221 := ⟨by decide +kernel, rfl, av_mem (i := 361) rfl, av_mem (i := 8) rfl, ⟨by decide +kernel, by decide +kernel⟩, by decide +kernel, Or.inr (Or.inr ⟨rfl, av_mem (i := 360) rfl⟩)⟩
set_option maxRecDepth 100000 in
set_option maxHeartbeats 2000000 in
theorem hk_222 : av_hok ms_222 := ⟨by decide +kernel, rfl, av_mem (i := 141) rfl, av_mem (i := 8) rfl, ⟨by decide +kernel, by decide +kernel⟩, by decide +kernel, Or.inr (Or.inr ⟨rfl, av_mem (i := 140) rfl⟩)⟩
end
section
/-! THE TABLE HOLDS: codes 0 on -/
set_option maxRecDepth 100000 in
set_option maxHeartbeats 2000000 in
theorem dk_0 : av_dok av_TT ms_0 := av_dokB_ok (by decide +kernel)
set_option maxRecDepth 100000 in
set_option maxHeartbeats 2000000 in
theorem dk_1 : av_dok av_TT ms_1 := av_dokB_ok (by decide +kernel)
set_option maxRecDepth 100000 in
set_option maxHeartbeats 2000000 in
theorem dk_2 : av_dok av_TT ms_2 := av_dokB_ok (by decide +kernel)
set_option maxRecDepth 100000 in
set_option maxHeartbeats 2000000 in
theorem dk_3 : av_dok av_TT ms_3 := av_dokB_ok (by decide +kernel)
set_option maxRecDepth 100000 in
set_option maxHeartbeats 2000000 in
theorem dk_4 : av_dok av_TT ms_4 := av_dokB_ok (by decide +kernel)
set_option maxRecDepth 100000 in
set_option maxHeartbeats 2000000 in
theorem dk_5 : av_dok av_TT ms_5 := av_dokB_ok (by decide +kernel)
set_option maxRecDepth 100000 in
set_option maxHeartbeats 2000000 in
theorem dk_6 : av_dok av_TT ms_6 := av_dokB_ok (by decide +kernel)
set_option maxRecDepth 100000 in
set_option maxHeartbeats 2000000 in
theorem dk_7 : av_dok av_TT ms_7 := av_dokB_ok (by decide +kernel)
set_option maxRecDepth 100000 in
set_option maxHeartbeats 2000000 in
theorem dk_8 : av_dok av_TT ms_8 := av_dokB_ok (by decide +kernel)
set_option maxRecDepth 100000 in
set_option maxHeartbeats 2000000 in
theorem dk_9 : av_dok av_TT ms_9 := av_dokB_ok (by decide +kernel)
set_option maxRecDepth 100000 in
set_option maxHeartbeats 2000000 in
theorem dk_10 : av_dok av_TT ms_10 := av_dokB_ok (by decide +kernel)
set_option maxRecDepth 100000 in
set_option maxHeartbeats 2000000 in
theorem dk_11 : av_dok av_TT ms_11 := av_dokB_ok (by decide +kernel)
set_option maxRecDepth 100000 in
set_option maxHeartbeats 2000000 in
theorem dk_12 : av_dok av_TT ms_12 := av_dokB_ok (by decide +kernel)
set_option maxRecDepth 100000 in
set_option maxHeartbeats 2000000 in
theorem dk_13 : av_dok av_TT ms_13 := av_dokB_ok (by decide +kernel)
set_option maxRecDepth 100000 in
set_option maxHeartbeats 2000000 in
theorem dk_14 : av_dok av_TT ms_14 := av_dokB_ok (by decide +kernel)
set_option maxRecDepth 100000 in
set_option maxHeartbeats 2000000 in
theorem dk_15 : av_dok av_TT ms_15 := av_dokB_ok (by decide +kernel)
set_option maxRecDepth 100000 in
set_option maxHeartbeats 2000000 in
theorem dk_16 : av_dok av_TT ms_16 := av_dokB_ok (by decide +kernel)
set_option maxRecDepth 100000 in
set_option maxHeartbeats 2000000 in
theorem dk_17 : av_dok av_TT ms_17 := av_dokB_ok (by decide +kernel)
set_option maxRecDepth 100000 in
set_option maxHeartbeats 2000000 in
theorem dk_18 : av_dok av_TT ms_18 := av_dokB_ok (by decide +kernel)
set_option maxRecDepth 100000 in
set_option maxHeartbeats 2000000 in
theorem dk_19 : av_dok av_TT ms_19 := av_dokB_ok (by decide +kernel)
set_option maxRecDepth 100000 in
set_option maxHeartbeats 2000000 in
theorem dk_20 : av_dok av_TT ms_20 := av_dokB_ok (by decide +kernel)
set_option maxRecDepth 100000 in
set_option maxHeartbeats 2000000 in
theorem dk_21 : av_dok av_TT ms_21 := av_dokB_ok (by decide +kernel)
set_option maxRecDepth 100000 in
set_option maxHeartbeats 2000000 in
theorem dk_22 : av_dok av_TT ms_22 := av_dokB_ok (by decide +kernel)
set_option maxRecDepth 100000 in
set_option maxHeartbeats 2000000 in
theorem dk_23 : av_dok av_TT ms_23 := av_dokB_ok (by decide +kernel)
set_option maxRecDepth 100000 in
set_option maxHeartbeats 2000000 in
theorem dk_24 : av_dok av_TT ms_24 := av_dokB_ok (by decide +kernel)
set_option maxRecDepth 100000 in
set_option maxHeartbeats 2000000 in
theorem dk_25 : av_dok av_TT ms_25 := av_dokB_ok (by decide +kernel)
set_option maxRecDepth 100000 in
set_option maxHeartbeats 2000000 in
theorem dk_26 : av_dok av_TT ms_26 := av_dokB_ok (by decide +kernel)
set_option maxRecDepth 100000 in
set_option maxHeartbeats 2000000 in
theorem dk_27 : av_dok av_TT ms_27 := av_dokB_ok (by decide +kernel)
set_option maxRecDepth 100000 in
set_option maxHeartbeats 2000000 in
theorem dk_28 : av_dok av_TT ms_28 := av_dokB_ok (by decide +kernel)
set_option maxRecDepth 100000 in
set_option maxHeartbeats 2000000 in
theorem dk_29 : av_dok av_TT ms_29 := av_dokB_ok (by decide +kernel)
set_option maxRecDepth 100000 in
set_option maxHeartbeats 2000000 in
theorem dk_30 : av_dok av_TT ms_30 := av_dokB_ok (by decide +kernel)
set_option maxRecDepth 100000 in
set_option maxHeartbeats 2000000 in
theorem dk_31 : av_dok av_TT ms_31 := av_dokB_ok (by decide +kernel)
set_option maxRecDepth 100000 in
set_option maxHeartbeats 2000000 in
theorem dk_32 : av_dok av_TT ms_32 := av_dokB_ok (by decide +kernel)
set_option maxRecDepth 100000 in
set_option maxHeartbeats 2000000 in
theorem dk_33 : av_dok av_TT ms_33 := av_dokB_ok (by decide +kernel)
set_option maxRecDepth 100000 in
set_option maxHeartbeats 2000000 in
theorem dk_34 : av_dok av_TT ms_34 := av_dokB_ok (by decide +kernel)
set_option maxRecDepth 100000 in
set_option maxHeartbeats 2000000 in
theorem dk_35 : av_dok av_TT ms_35 := av_dokB_ok (by decide +kernel)
set_option maxRecDepth 100000 in
set_option maxHeartbeats 2000000 in
theorem dk_36 : av_dok av_TT ms_36 := av_dokB_ok (by decide +kernel)
set_option maxRecDepth 100000 in
set_option maxHeartbeats 2000000 in
theorem dk_37 : av_dok av_TT ms_37 := av_dokB_ok (by decide +kernel)
set_option maxRecDepth 100000 in
set_option maxHeartbeats 2000000 in
theorem dk_38 : av_dok av_TT ms_38 := av_dokB_ok (by decide +kernel)
set_option maxRecDepth 100000 in
set_option maxHeartbeats 2000000 in
theorem dk_39 : av_dok av_TT ms_39 := av_dokB_ok (by decide +kernel)
set_option maxRecDepth 100000 in
set_option maxHeartbeats 2000000 in
theorem dk_40 : av_dok av_TT ms_40 := av_dokB_ok (by decide +kernel)
set_option maxRecDepth 100000 in
set_option maxHeartbeats 2000000 in
theorem dk_41 : av_dok av_TT ms_41 := av_dokB_ok (by decide +kernel)
set_option maxRecDepth 100000 in
set_option maxHeartbeats 2000000 in
theorem dk_42 : av_dok av_TT ms_42 := av_dokB_ok (by decide +kernel)
set_option maxRecDepth 100000 in
set_option maxHeartbeats 2000000 in
theorem dk_43 : av_dok av_TT ms_43 := av_dokB_ok (by decide +kernel)
set_option maxRecDepth 100000 in
set_option maxHeartbeats 2000000 in
theorem dk_44 : av_dok av_TT ms_44 := av_dokB_ok (by decide +kernel)
set_option maxRecDepth 100000 in
set_option maxHeartbeats 2000000 in
theorem dk_45 : av_dok av_TT ms_45 := av_dokB_ok (by decide +kernel)
set_option maxRecDepth 100000 in
set_option maxHeartbeats 2000000 in
theorem dk_46 : av_dok av_TT ms_46 := av_dokB_ok (by decide +kernel)
set_option maxRecDepth 100000 in
set_option maxHeartbeats 2000000 in
theorem dk_47 : av_dok av_TT ms_47 := av_dokB_ok (by decide +kernel)
set_option maxRecDepth 100000 in
set_option maxHeartbeats 2000000 in
theorem dk_48 : av_dok av_TT ms_48 := av_dokB_ok (by decide +kernel)
set_option maxRecDepth 100000 in
set_option maxHeartbeats 2000000 in
theorem dk_49 : av_dok av_TT ms_49 := av_dokB_ok (by decide +kernel)
set_option maxRecDepth 100000 in
set_option maxHeartbeats 2000000 in
theorem dk_50 : av_dok av_TT ms_50 := av_dokB_ok (by decide +kernel)
set_option maxRecDepth 100000 in
set_option maxHeartbeats 2000000 in
theorem dk_51 : av_dok av_TT ms_51 := av_dokB_ok (by decide +kernel)
set_option maxRecDepth 100000 in
set_option maxHeartbeats 2000000 in
theorem dk_52 : av_dok av_TT ms_52 := av_dokB_ok (by decide +kernel)
set_option maxRecDepth 100000 in
set_option maxHeartbeats 2000000 in
theorem dk_53 : av_dok av_TT ms_53 := av_dokB_ok (by decide +kernel)
set_option maxRecDepth 100000 in
set_option maxHeartbeats 2000000 in
theorem dk_54 : av_dok av_TT ms_54 := av_dokB_ok (by decide +kernel)
set_option maxRecDepth 100000 in
set_option maxHeartbeats 2000000 in
theorem dk_55 : av_dok av_TT ms_55 := av_dokB_ok (by decide +kernel)
end
section
/-! THE TABLE HOLDS: codes 56 on -/
set_option maxRecDepth 100000 in
set_option maxHeartbeats 2000000 in
theorem dk_56 : av_dok av_TT ms_56 := av_dokB_ok (by decide +kernel)
set_option maxRecDepth 100000 in
set_option maxHeartbeats 2000000 in
theorem dk_57 : av_dok av_TT ms_57 := av_dokB_ok (by decide +kernel)
set_option maxRecDepth 100000 in
set_option maxHeartbeats 2000000 in
theorem dk_58 : av_dok av_TT ms_58 := av_dokB_ok (by decide +kernel)
set_option maxRecDepth 100000 in
set_option maxHeartbeats 2000000 in
theorem dk_59 : av_dok av_TT ms_59 := av_dokB_ok (by decide +kernel)
set_option maxRecDepth 100000 in
set_option maxHeartbeats 2000000 in
theorem dk_60 : av_dok av_TT ms_60 := av_dokB_ok (by decide +kernel)
set_option maxRecDepth 100000 in
set_option maxHeartbeats 2000000 in
theorem dk_61 : av_dok av_TT ms_61 := av_dokB_ok (by decide +kernel)
set_option maxRecDepth 100000 in
set_option maxHeartbeats 2000000 in
theorem dk_62 : av_dok av_TT ms_62 := av_dokB_ok (by decide +kernel)
set_option maxRecDepth 100000 in
set_option maxHeartbeats 2000000 in
theorem dk_63 : av_dok av_TT ms_63 := av_dokB_ok (by decide +kernel)
set_option maxRecDepth 100000 in
set_option maxHeartbeats 2000000 in
theorem dk_64 : av_dok av_TT ms_64 := av_dokB_ok (by decide +kernel)
set_option maxRecDepth 100000 in
set_option maxHeartbeats 2000000 in
theorem dk_65 : av_dok av_TT ms_65 := av_dokB_ok (by decide +kernel)
set_option maxRecDepth 100000 in
set_option maxHeartbeats 2000000 in
theorem dk_66 : av_dok av_TT ms_66 := av_dokB_ok (by decide +kernel)
set_option maxRecDepth 100000 in
set_option maxHeartbeats 2000000 in
theorem dk_67 : av_dok av_TT ms_67 := av_dokB_ok (by decide +kernel)
set_option maxRecDepth 100000 in
set_option maxHeartbeats 2000000 in
theorem dk_68 : av_dok av_TT ms_68 := av_dokB_ok (by decide +kernel)
set_option maxRecDepth 100000 in
set_option maxHeartbeats 2000000 in
theorem dk_69 : av_dok av_TT ms_69 := av_dokB_ok (by decide +kernel)
set_option maxRecDepth 100000 in
set_option maxHeartbeats 2000000 in
theorem dk_70 : av_dok av_TT ms_70 := av_dokB_ok (by decide +kernel)
set_option maxRecDepth 100000 in
set_option maxHeartbeats 2000000 in
theorem dk_71 : av_dok av_TT ms_71 := av_dokB_ok (by decide +kernel)
set_option maxRecDepth 100000 in
set_option maxHeartbeats 2000000 in
theorem dk_72 : av_dok av_TT ms_72 := av_dokB_ok (by decide +kernel)
set_option maxRecDepth 100000 in
set_option maxHeartbeats 2000000 in
theorem dk_73 : av_dok av_TT ms_73 := av_dokB_ok (by decide +kernel)
set_option maxRecDepth 100000 in
set_option maxHeartbeats 2000000 in
theorem dk_74 : av_dok av_TT ms_74 := av_dokB_ok (by decide +kernel)
set_option maxRecDepth 100000 in
set_option maxHeartbeats 2000000 in
theorem dk_75 : av_dok av_TT ms_75 := av_dokB_ok (by decide +kernel)
set_option maxRecDepth 100000 in
set_option maxHeartbeats 2000000 in
theorem dk_76 : av_dok av_TT ms_76 := av_dokB_ok (by decide +kernel)
set_option maxRecDepth 100000 in
set_option maxHeartbeats 2000000 in
theorem dk_77 : av_dok av_TT ms_77 := av_dokB_ok (by decide +kernel)
set_option maxRecDepth 100000 in
set_option maxHeartbeats 2000000 in
theorem dk_78 : av_dok av_TT ms_78 := av_dokB_ok (by decide +kernel)
set_option maxRecDepth 100000 in
set_option maxHeartbeats 2000000 in
theorem dk_79 : av_dok av_TT ms_79 := av_dokB_ok (by decide +kernel)
set_option maxRecDepth 100000 in
set_option maxHeartbeats 2000000 in
theorem dk_80 : av_dok av_TT ms_80 := av_dokB_ok (by decide +kernel)
set_option maxRecDepth 100000 in
set_option maxHeartbeats 2000000 in
theorem dk_81 : av_dok av_TT ms_81 := av_dokB_ok (by decide +kernel)
set_option maxRecDepth 100000 in
set_option maxHeartbeats 2000000 in
theorem dk_82 : av_dok av_TT ms_82 := av_dokB_ok (by decide +kernel)
set_option maxRecDepth 100000 in
set_option maxHeartbeats 2000000 in
theorem dk_83 : av_dok av_TT ms_83 := av_dokB_ok (by decide +kernel)
set_option maxRecDepth 100000 in
set_option maxHeartbeats 2000000 in
theorem dk_84 : av_dok av_TT ms_84 := av_dokB_ok (by decide +kernel)
set_option maxRecDepth 100000 in
set_option maxHeartbeats 2000000 in
theorem dk_85 : av_dok av_TT ms_85 := av_dokB_ok (by decide +kernel)
set_option maxRecDepth 100000 in
set_option maxHeartbeats 2000000 in
theorem dk_86 : av_dok av_TT ms_86 := av_dokB_ok (by decide +kernel)
set_option maxRecDepth 100000 in
set_option maxHeartbeats 2000000 in
theorem dk_87 : av_dok av_TT ms_87 := av_dokB_ok (by decide +kernel)
set_option maxRecDepth 100000 in
set_option maxHeartbeats 2000000 in
theorem dk_88 : av_dok av_TT ms_88 := av_dokB_ok (by decide +kernel)
set_option maxRecDepth 100000 in
set_option maxHeartbeats 2000000 in
theorem dk_89 : av_dok av_TT ms_89 := av_dokB_ok (by decide +kernel)
set_option maxRecDepth 100000 in
set_option maxHeartbeats 2000000 in
theorem dk_90 : av_dok av_TT ms_90 := av_dokB_ok (by decide +kernel)
set_option maxRecDepth 100000 in
set_option maxHeartbeats 2000000 in
theorem dk_91 : av_dok av_TT ms_91 := av_dokB_ok (by decide +kernel)
set_option maxRecDepth 100000 in
set_option maxHeartbeats 2000000 in
theorem dk_92 : av_dok av_TT ms_92 := av_dokB_ok (by decide +kernel)
set_option maxRecDepth 100000 in
set_option maxHeartbeats 2000000 in
theorem dk_93 : av_dok av_TT ms_93 := av_dokB_ok (by decide +kernel)
set_option maxRecDepth 100000 in
set_option maxHeartbeats 2000000 in
theorem dk_94 : av_dok av_TT ms_94 := av_dokB_ok (by decide +kernel)
set_option maxRecDepth 100000 in
set_option maxHeartbeats 2000000 in
theorem dk_95 : av_dok av_TT ms_95 := av_dokB_ok (by decide +kernel)
set_option maxRecDepth 100000 in
set_option maxHeartbeats 2000000 in
theorem dk_96 : av_dok av_TT ms_96 := av_dokB_ok (by decide +kernel)
set_option maxRecDepth 100000 in
set_option maxHeartbeats 2000000 in
theorem dk_97 : av_dok av_TT ms_97 := av_dokB_ok (by decide +kernel)
set_option maxRecDepth 100000 in
set_option maxHeartbeats 2000000 in
theorem dk_98 : av_dok av_TT ms_98 := av_dokB_ok (by decide +kernel)
set_option maxRecDepth 100000 in
set_option maxHeartbeats 2000000 in
theorem dk_99 : av_dok av_TT ms_99 := av_dokB_ok (by decide +kernel)
set_option maxRecDepth 100000 in
set_option maxHeartbeats 2000000 in
theorem dk_100 : av_dok av_TT ms_100 := av_dokB_ok (by decide +kernel)
set_option maxRecDepth 100000 in
set_option maxHeartbeats 2000000 in
theorem dk_101 : av_dok av_TT ms_101 := av_dokB_ok (by decide +kernel)
set_option maxRecDepth 100000 in
set_option maxHeartbeats 2000000 in
theorem dk_102 : av_dok av_TT ms_102 := av_dokB_ok (by decide +kernel)
set_option maxRecDepth 100000 in
set_option maxHeartbeats 2000000 in
theorem dk_103 : av_dok av_TT ms_103 := av_dokB_ok (by decide +kernel)
set_option maxRecDepth 100000 in
set_option maxHeartbeats 2000000 in
theorem dk_104 : av_dok av_TT ms_104 := av_dokB_ok (by decide +kernel)
set_option maxRecDepth 100000 in
set_option maxHeartbeats 2000000 in
theorem dk_105 : av_dok av_TT ms_105 := av_dokB_ok (by decide +kernel)
set_option maxRecDepth 100000 in
set_option maxHeartbeats 2000000 in
theorem dk_106 : av_dok av_TT ms_106 := av_dokB_ok (by decide +kernel)
set_option maxRecDepth 100000 in
set_option maxHeartbeats 2000000 in
theorem dk_107 : av_dok av_TT ms_107 := av_dokB_ok (by decide +kernel)
set_option maxRecDepth 100000 in
set_option maxHeartbeats 2000000 in
theorem dk_108 : av_dok av_TT ms_108 := av_dokB_ok (by decide +kernel)
set_option maxRecDepth 100000 in
set_option maxHeartbeats 2000000 in
theorem dk_109 : av_dok av_TT ms_109 := av_dokB_ok (by decide +kernel)
set_option maxRecDepth 100000 in
set_option maxHeartbeats 2000000 in
theorem dk_110 : av_dok av_TT ms_110 := av_dokB_ok (by decide +kernel)
set_option maxRecDepth 100000 in
set_option maxHeartbeats 2000000 in
theorem dk_111 : av_dok av_TT ms_111 := av_dokB_ok (by decide +kernel)
end
section
/-! THE TABLE HOLDS: codes 112 on -/
set_option maxRecDepth 100000 in
set_option maxHeartbeats 2000000 in
theorem dk_112 : av_dok av_TT ms_112 := av_dokB_ok (by decide +kernel)
set_option maxRecDepth 100000 in
set_option maxHeartbeats 2000000 in
theorem dk_113 : av_dok av_TT ms_113 := av_dokB_ok (by decide +kernel)
set_option maxRecDepth 100000 in
set_option maxHeartbeats 2000000 in
theorem dk_114 : av_dok av_TT ms_114 := av_dokB_ok (by decide +kernel)
set_option maxRecDepth 100000 in
set_option maxHeartbeats 2000000 in
theorem dk_115 : av_dok av_TT ms_115 := av_dokB_ok (by decide +kernel)
set_option maxRecDepth 100000 in
set_option maxHeartbeats 2000000 in
theorem dk_116 : av_dok av_TT ms_116 := av_dokB_ok (by decide +kernel)
set_option maxRecDepth 100000 in
set_option maxHeartbeats 2000000 in
theorem dk_117 : av_dok av_TT ms_117 := av_dokB_ok (by decide +kernel)
set_option maxRecDepth 100000 in
set_option maxHeartbeats 2000000 in
theorem dk_118 : av_dok av_TT ms_118 := av_dokB_ok (by decide +kernel)
set_option maxRecDepth 100000 in
set_option maxHeartbeats 2000000 in
theorem dk_119 : av_dok av_TT ms_119 := av_dokB_ok (by decide +kernel)
set_option maxRecDepth 100000 in
set_option maxHeartbeats 2000000 in
theorem dk_120 : av_dok av_TT ms_120 := av_dokB_ok (by decide +kernel)
set_option maxRecDepth 100000 in
set_option maxHeartbeats 2000000 in
theorem dk_121 : av_dok av_TT ms_121 := av_dokB_ok (by decide +kernel)
set_option maxRecDepth 100000 in
set_option maxHeartbeats 2000000 in
theorem dk_122 : av_dok av_TT ms_122 := av_dokB_ok (by decide +kernel)
set_option maxRecDepth 100000 in
set_option maxHeartbeats 2000000 in
theorem dk_123 : av_dok av_TT ms_123 := av_dokB_ok (by decide +kernel)
set_option maxRecDepth 100000 in
set_option maxHeartbeats 2000000 in
theorem dk_124 : av_dok av_TT ms_124 := av_dokB_ok (by decide +kernel)
set_option maxRecDepth 100000 in
set_option maxHeartbeats 2000000 in
theorem dk_125 : av_dok av_TT ms_125 := av_dokB_ok (by decide +kernel)
set_option maxRecDepth 100000 in
set_option maxHeartbeats 2000000 in
theorem dk_126 : av_dok av_TT ms_126 := av_dokB_ok (by decide +kernel)
set_option maxRecDepth 100000 in
set_option maxHeartbeats 2000000 in
theorem dk_127 : av_dok av_TT ms_127 := av_dokB_ok (by decide +kernel)
set_option maxRecDepth 100000 in
set_option maxHeartbeats 2000000 in
theorem dk_128 : av_dok av_TT ms_128 := av_dokB_ok (by decide +kernel)
set_option maxRecDepth 100000 in
set_option maxHeartbeats 2000000 in
theorem dk_129 : av_dok av_TT ms_129 := av_dokB_ok (by decide +kernel)
set_option maxRecDepth 100000 in
set_option maxHeartbeats 2000000 in
theorem dk_130 : av_dok av_TT ms_130 := av_dokB_ok (by decide +kernel)
set_option maxRecDepth 100000 in
set_option maxHeartbeats 2000000 in
theorem dk_131 : av_dok av_TT ms_131 := av_dokB_ok (by decide +kernel)
set_option maxRecDepth 100000 in
set_option maxHeartbeats 2000000 in
theorem dk_132 : av_dok av_TT ms_132 := av_dokB_ok (by decide +kernel)
set_option maxRecDepth 100000 in
set_option maxHeartbeats 2000000 in
theorem dk_133 : av_dok av_TT ms_133 := av_dokB_ok (by decide +kernel)
set_option maxRecDepth 100000 in
set_option maxHeartbeats 2000000 in
theorem dk_134 : av_dok av_TT ms_134 := av_dokB_ok (by decide +kernel)
set_option maxRecDepth 100000 in
set_option maxHeartbeats 2000000 in
theorem dk_135 : av_dok av_TT ms_135 := av_dokB_ok (by decide +kernel)
set_option maxRecDepth 100000 in
set_option maxHeartbeats 2000000 in
theorem dk_136 : av_dok av_TT ms_136 := av_dokB_ok (by decide +kernel)
set_option maxRecDepth 100000 in
set_option maxHeartbeats 2000000 in
theorem dk_137 : av_dok av_TT ms_137 := av_dokB_ok (by decide +kernel)
set_option maxRecDepth 100000 in
set_option maxHeartbeats 2000000 in
theorem dk_138 : av_dok av_TT ms_138 := av_dokB_ok (by decide +kernel)
set_option maxRecDepth 100000 in
set_option maxHeartbeats 2000000 in
theorem dk_139 : av_dok av_TT ms_139 := av_dokB_ok (by decide +kernel)
set_option maxRecDepth 100000 in
set_option maxHeartbeats 2000000 in
theorem dk_140 : av_dok av_TT ms_140 := av_dokB_ok (by decide +kernel)
set_option maxRecDepth 100000 in
set_option maxHeartbeats 2000000 in
theorem dk_141 : av_dok av_TT ms_141 := av_dokB_ok (by decide +kernel)
set_option maxRecDepth 100000 in
set_option maxHeartbeats 2000000 in
theorem dk_142 : av_dok av_TT ms_142 := av_dokB_ok (by decide +kernel)
set_option maxRecDepth 100000 in
set_option maxHeartbeats 2000000 in
theorem dk_143 : av_dok av_TT ms_143 := av_dokB_ok (by decide +kernel)
set_option maxRecDepth 100000 in
set_option maxHeartbeats 2000000 in
theorem dk_144 : av_dok av_TT ms_144 := av_dokB_ok (by decide +kernel)
set_option maxRecDepth 100000 in
set_option maxHeartbeats 2000000 in
theorem dk_145 : av_dok av_TT ms_145 := av_dokB_ok (by decide +kernel)
set_option maxRecDepth 100000 in
set_option maxHeartbeats 2000000 in
theorem dk_146 : av_dok av_TT ms_146 := av_dokB_ok (by decide +kernel)
set_option maxRecDepth 100000 in
set_option maxHeartbeats 2000000 in
theorem dk_147 : av_dok av_TT ms_147 := av_dokB_ok (by decide +kernel)
set_option maxRecDepth 100000 in
set_option maxHeartbeats 2000000 in
theorem dk_148 : av_dok av_TT ms_148 := av_dokB_ok (by decide +kernel)
set_option maxRecDepth 100000 in
set_option maxHeartbeats 2000000 in
theorem dk_149 : av_dok av_TT ms_149 := av_dokB_ok (by decide +kernel)
set_option maxRecDepth 100000 in
set_option maxHeartbeats 2000000 in
theorem dk_150 : av_dok av_TT ms_150 := av_dokB_ok (by decide +kernel)
set_option maxRecDepth 100000 in
set_option maxHeartbeats 2000000 in
theorem dk_151 : av_dok av_TT ms_151 := av_dokB_ok (by decide +kernel)
set_option maxRecDepth 100000 in
set_option maxHeartbeats 2000000 in
theorem dk_152 : av_dok av_TT ms_152 := av_dokB_ok (by decide +kernel)
set_option maxRecDepth 100000 in
set_option maxHeartbeats 2000000 in
theorem dk_153 : av_dok av_TT ms_153 := av_dokB_ok (by decide +kernel)
set_option maxRecDepth 100000 in
set_option maxHeartbeats 2000000 in
theorem dk_154 : av_dok av_TT ms_154 := av_dokB_ok (by decide +kernel)
set_option maxRecDepth 100000 in
set_option maxHeartbeats 2000000 in
theorem dk_155 : av_dok av_TT ms_155 := av_dokB_ok (by decide +kernel)
set_option maxRecDepth 100000 in
set_option maxHeartbeats 2000000 in
theorem dk_156 : av_dok av_TT ms_156 := av_dokB_ok (by decide +kernel)
set_option maxRecDepth 100000 in
set_option maxHeartbeats 2000000 in
theorem dk_157 : av_dok av_TT ms_157 := av_dokB_ok (by decide +kernel)
set_option maxRecDepth 100000 in
set_option maxHeartbeats 2000000 in
theorem dk_158 : av_dok av_TT ms_158 := av_dokB_ok (by decide +kernel)
set_option maxRecDepth 100000 in
set_option maxHeartbeats 2000000 in
theorem dk_159 : av_dok av_TT ms_159 := av_dokB_ok (by decide +kernel)
set_option maxRecDepth 100000 in
set_option maxHeartbeats 2000000 in
theorem dk_160 : av_dok av_TT ms_160 := av_dokB_ok (by decide +kernel)
set_option maxRecDepth 100000 in
set_option maxHeartbeats 2000000 in
theorem dk_161 : av_dok av_TT ms_161 := av_dokB_ok (by decide +kernel)
set_option maxRecDepth 100000 in
set_option maxHeartbeats 2000000 in
theorem dk_162 : av_dok av_TT ms_162 := av_dokB_ok (by decide +kernel)
set_option maxRecDepth 100000 in
set_option maxHeartbeats 2000000 in
theorem dk_163 : av_dok av_TT ms_163 := av_dokB_ok (by decide +kernel)
set_option maxRecDepth 100000 in
set_option maxHeartbeats 2000000 in
theorem dk_164 : av_dok av_TT ms_164 := av_dokB_ok (by decide +kernel)
set_option maxRecDepth 100000 in
set_option maxHeartbeats 2000000 in
theorem dk_165 : av_dok av_TT ms_165 := av_dokB_ok (by decide +kernel)
set_option maxRecDepth 100000 in
set_option maxHeartbeats 2000000 in
theorem dk_166 : av_dok av_TT ms_166 := av_dokB_ok (by decide +kernel)
set_option maxRecDepth 100000 in
set_option maxHeartbeats 2000000 in
theorem dk_167 : av_dok av_TT ms_167 := av_dokB_ok (by decide +kernel)
end
section
/-! THE TABLE HOLDS: codes 168 on -/
set_option maxRecDepth 100000 in
set_option maxHeartbeats 2000000 in
theorem dk_168 : av_dok av_TT ms_168 := av_dokB_ok (by decide +kernel)
set_option maxRecDepth 100000 in
set_option maxHeartbeats 2000000 in
theorem dk_169 : av_dok av_TT ms_169 := av_dokB_ok (by decide +kernel)
set_option maxRecDepth 100000 in
set_option maxHeartbeats 2000000 in
theorem dk_170 : av_dok av_TT ms_170 := av_dokB_ok (by decide +kernel)
set_option maxRecDepth 100000 in
set_option maxHeartbeats 2000000 in
theorem dk_171 : av_dok av_TT ms_171 := av_dokB_ok (by decide +kernel)
set_option maxRecDepth 100000 in
set_option maxHeartbeats 2000000 in
theorem dk_172 : av_dok av_TT ms_172 := av_dokB_ok (by decide +kernel)
set_option maxRecDepth 100000 in
set_option maxHeartbeats 2000000 in
theorem dk_173 : av_dok av_TT ms_173 := av_dokB_ok (by decide +kernel)
set_option maxRecDepth 100000 in
set_option maxHeartbeats 2000000 in
theorem dk_174 : av_dok av_TT ms_174 := av_dokB_ok (by decide +kernel)
set_option maxRecDepth 100000 in
set_option maxHeartbeats 2000000 in
theorem dk_175 : av_dok av_TT ms_175 := av_dokB_ok (by decide +kernel)
set_option maxRecDepth 100000 in
set_option maxHeartbeats 2000000 in
theorem dk_176 : av_dok av_TT ms_176 := av_dokB_ok (by decide +kernel)
set_option maxRecDepth 100000 in
set_option maxHeartbeats 2000000 in
theorem dk_177 : av_dok av_TT ms_177 := av_dokB_ok (by decide +kernel)
set_option maxRecDepth 100000 in
set_option maxHeartbeats 2000000 in
theorem dk_178 : av_dok av_TT ms_178 := av_dokB_ok (by decide +kernel)
set_option maxRecDepth 100000 in
set_option maxHeartbeats 2000000 in
theorem dk_179 : av_dok av_TT ms_179 := av_dokB_ok (by decide +kernel)
set_option maxRecDepth 100000 in
set_option maxHeartbeats 2000000 in
theorem dk_180 : av_dok av_TT ms_180 := av_dokB_ok (by decide +kernel)
set_option maxRecDepth 100000 in
set_option maxHeartbeats 2000000 in
theorem dk_181 : av_dok av_TT ms_181 := av_dokB_ok (by decide +kernel)
set_option maxRecDepth 100000 in
set_option maxHeartbeats 2000000 in
theorem dk_182 : av_dok av_TT ms_182 := av_dokB_ok (by decide +kernel)
set_option maxRecDepth 100000 in
set_option maxHeartbeats 2000000 in
theorem dk_183 : av_dok av_TT ms_183 := av_dokB_ok (by decide +kernel)
set_option maxRecDepth 100000 in
set_option maxHeartbeats 2000000 in
theorem dk_184 : av_dok av_TT ms_184 := av_dokB_ok (by decide +kernel)
set_option maxRecDepth 100000 in
set_option maxHeartbeats 2000000 in
theorem dk_185 : av_dok av_TT ms_185 := av_dokB_ok (by decide +kernel)
set_option maxRecDepth 100000 in
set_option maxHeartbeats 2000000 in
theorem dk_186 : av_dok av_TT ms_186 := av_dokB_ok (by decide +kernel)
set_option maxRecDepth 100000 in
set_option maxHeartbeats 2000000 in
theorem dk_187 : av_dok av_TT ms_187 := av_dokB_ok (by decide +kernel)
set_option maxRecDepth 100000 in
set_option maxHeartbeats 2000000 in
theorem dk_188 : av_dok av_TT ms_188 := av_dokB_ok (by decide +kernel)
set_option maxRecDepth 100000 in
set_option maxHeartbeats 2000000 in
theorem dk_189 : av_dok av_TT ms_189 := av_dokB_ok (by decide +kernel)
set_option maxRecDepth 100000 in
set_option maxHeartbeats 2000000 in
theorem dk_190 : av_dok av_TT ms_190 := av_dokB_ok (by decide +kernel)
set_option maxRecDepth 100000 in
set_option maxHeartbeats 2000000 in
theorem dk_191 : av_dok av_TT ms_191 := av_dokB_ok (by decide +kernel)
set_option maxRecDepth 100000 in
set_option maxHeartbeats 2000000 in
theorem dk_192 : av_dok av_TT ms_192 := av_dokB_ok (by decide +kernel)
set_option maxRecDepth 100000 in
set_option maxHeartbeats 2000000 in
theorem dk_193 : av_dok av_TT ms_193 := av_dokB_ok (by decide +kernel)
set_option maxRecDepth 100000 in
set_option maxHeartbeats 2000000 in
theorem dk_194 : av_dok av_TT ms_194 := av_dokB_ok (by decide +kernel)
set_option maxRecDepth 100000 in
set_option maxHeartbeats 2000000 in
theorem dk_195 : av_dok av_TT ms_195 := av_dokB_ok (by decide +kernel)
set_option maxRecDepth 100000 in
set_option maxHeartbeats 2000000 in
theorem dk_196 : av_dok av_TT ms_196 := av_dokB_ok (by decide +kernel)
set_option maxRecDepth 100000 in
set_option maxHeartbeats 2000000 in
theorem dk_197 : av_dok av_TT ms_197 := av_dokB_ok (by decide +kernel)
set_option maxRecDepth 100000 in
set_option maxHeartbeats 2000000 in
theorem dk_198 : av_dok av_TT ms_198 := av_dokB_ok (by decide +kernel)
set_option maxRecDepth 100000 in
set_option maxHeartbeats 2000000 in
theorem dk_199 : av_dok av_TT ms_199 := av_dokB_ok (by decide +kernel)
set_option maxRecDepth 100000 in
set_option maxHeartbeats 2000000 in
theorem dk_200 : av_dok av_TT ms_200 := av_dokB_ok (by decide +kernel)
set_option maxRecDepth 100000 in
set_option maxHeartbeats 2000000 in
theorem dk_201 : av_dok av_TT ms_201 := av_dokB_ok (by decide +kernel)
set_option maxRecDepth 100000 in
set_option maxHeartbeats 2000000 in
theorem dk_202 : av_dok av_TT ms_202 := av_dokB_ok (by decide +kernel)
set_option maxRecDepth 100000 in
set_option maxHeartbeats 2000000 in
theorem dk_203 : av_dok av_TT ms_203 := av_dokB_ok (by decide +kernel)
set_option maxRecDepth 100000 in
set_option maxHeartbeats 2000000 in
theorem dk_204 : av_dok av_TT ms_204 := av_dokB_ok (by decide +kernel)
set_option maxRecDepth 100000 in
set_option maxHeartbeats 2000000 in
theorem dk_205 : av_dok av_TT ms_205 := av_dokB_ok (by decide +kernel)
set_option maxRecDepth 100000 in
set_option maxHeartbeats 2000000 in
theorem dk_206 : av_dok av_TT ms_206 := av_dokB_ok (by decide +kernel)
set_option maxRecDepth 100000 in
set_option maxHeartbeats 2000000 in
theorem dk_207 : av_dok av_TT ms_207 := av_dokB_ok (by decide +kernel)
set_option maxRecDepth 100000 in
set_option maxHeartbeats 2000000 in
theorem dk_208 : av_dok av_TT ms_208 := av_dokB_ok (by decide +kernel)
set_option maxRecDepth 100000 in
set_option maxHeartbeats 2000000 in
theorem dk_209 : av_dok av_TT ms_209 := av_dokB_ok (by decide +kernel)
set_option maxRecDepth 100000 in
set_option maxHeartbeats 2000000 in
theorem dk_210 : av_dok av_TT ms_210 := av_dokB_ok (by decide +kernel)
set_option maxRecDepth 100000 in
set_option maxHeartbeats 2000000 in
theorem dk_211 : av_dok av_TT ms_211 := av_dokB_ok (by decide +kernel)
set_option maxRecDepth 100000 in
set_option maxHeartbeats 2000000 in
theorem dk_212 : av_dok av_TT ms_212 := av_dokB_ok (by decide +kernel)
set_option maxRecDepth 100000 in
set_option maxHeartbeats 2000000 in
theorem dk_213 : av_dok av_TT ms_213 := av_dokB_ok (by decide +kernel)
set_option maxRecDepth 100000 in
set_option maxHeartbeats 2000000 in
theorem dk_214 : av_dok av_TT ms_214 := av_dokB_ok (by decide +kernel)
set_option maxRecDepth 100000 in
set_option maxHeartbeats 2000000 in
theorem dk_215 : av_dok av_TT ms_215 := av_dokB_ok (by decide +kernel)
set_option maxRecDepth 100000 in
set_option maxHeartbeats 2000000 in
theorem dk_216 : av_dok av_TT ms_216 := av_dokB_ok (by decide +kernel)
set_option maxRecDepth 100000 in
set_option maxHeartbeats 2000000 in
theorem dk_217 : av_dok av_TT ms_217 := av_dokB_ok (by decide +kernel)
set_option maxRecDepth 100000 in
set_option maxHeartbeats 2000000 in
theorem dk_218 : av_dok av_TT ms_218 := av_dokB_ok (by decide +kernel)
set_option maxRecDepth 100000 in
set_option maxHeartbeats 2000000 in
theorem dk_219 : av_dok av_TT ms_219 := av_dokB_ok (by decide +kernel)
set_option maxRecDepth 100000 in
set_option maxHeartbeats 2000000 in
theorem dk_220 : av_dok av_TT ms_220 := av_dokB_ok (by decide +kernel)
set_option maxRecDepth 100000 in
set_option maxHeartbeats 2000000 in
theorem dk_221 : av_dok av_TT ms_221 := av_dokB_ok (by decide +kernel)
set_option maxRecDepth 100000 in
set_option maxHeartbeats 2000000 in
theorem dk_222 : av_dok av_TT ms_222 := av_dokB_ok (by decide +kernel)
end
section
/-! THE TABLE HOLDS -/
def av_dokL (q : Nat × av_E) : Bool := av_okB ms_L.1 ms_L.2.2.1 (decide (ms_L.2.2.2.2.2.1 = 1)) ms_L.2.2.2.2.2.2.2.1 ms_L.2.2.2.2.2.2.2.2.1 q.1 q.2 && av_rokB ms_L.2.2.2.2.1 q.2 && (if av_kd q.2 = 2 then av_cokB ms_L.1 ms_L.2.2.2.2.2.2.2.1 ms_L.2.2.2.2.2.2.2.2.1 q.2 else true)
def cd_L_0 : List (Nat × av_E) := [(0, av_qa (.new 7) 7), (3, av_q (.dup)), (4, av_qc (.invokespecial 9) 93 0 1 7), (7, av_q (.astore_n 1)), (8, av_qa (.new 10) 8), (11, av_q (.dup)), (12, av_qc (.invokespecial 12) 126 0 1 8), (15, av_q (.astore_n 2)), (16, av_q (.iconst 0)), (17, av_q (.istore_n 3)), (18, av_q (.iload_n 3)), (19, av_q (.aload_n 0)), (20, av_q (.arraylength)), (21, av_q (.bipush 6)), (23, av_q (.isub)), (24, av_qa (.if_icmp .gt 1266) 1290), (27, av_q (.aload_n 0)), (28, av_q (.iload_n 3)), (29, av_q (.iaload)), (30, av_q (.bipush 31)), (32, av_q (.iand)), (33, av_qw (.tableswitch 1251 0 27 #[127, 190, 213, 246, 269, 292, 305, 348, 381, 434, 467, 520, 583, 626, 669, 702, 755, 818, 871, 904, 927, 980, 1043, 1106, 1149, 1192, 1205, 1228]) 127), (160, av_q (.aload_n 1)), (161, av_q (.aload_n 0)), (162, av_q (.iload_n 3)), (163, av_q (.iconst 1)), (164, av_q (.iadd)), (165, av_q (.iaload)), (166, av_q (.aload_n 0)), (167, av_q (.iload_n 3)), (168, av_q (.iconst 2)), (169, av_q (.iadd)), (170, av_q (.iaload)), (171, av_q (.aload_n 0)), (172, av_q (.iload_n 3)), (173, av_q (.iconst 3)), (174, av_q (.iadd)), (175, av_q (.iaload)), (176, av_q (.aload_n 0)), (177, av_q (.iload_n 3)), (178, av_q (.iconst 4)), (179, av_q (.iadd)), (180, av_q (.iaload)), (181, av_q (.aload_n 0)), (182, av_q (.iload_n 3)), (183, av_q (.iconst 5)), (184, av_q (.iadd)), (185, av_q (.iaload)), (186, av_qc (.invokevirtual 13) 94 5 0 7), (189, av_q (.aload_n 2)), (190, av_q (.aload_n 0)), (191, av_q (.iload_n 3)), (192, av_q (.iconst 1)), (193, av_q (.iadd)), (194, av_q (.iaload)), (195, av_q (.aload_n 0)), (196, av_q (.iload_n 3)), (197, av_q (.iconst 2)), (198, av_q (.iadd)), (199, av_q (.iaload))]
set_option maxRecDepth 100000 in
set_option maxHeartbeats 2000000 in
theorem dk_L_0 : cd_L_0.all av_dokL = true := by decide +kernel
def cd_L_1 : List (Nat × av_E) := [(200, av_q (.aload_n 0)), (201, av_q (.iload_n 3)), (202, av_q (.iconst 3)), (203, av_q (.iadd)), (204, av_q (.iaload)), (205, av_q (.aload_n 0)), (206, av_q (.iload_n 3)), (207, av_q (.iconst 4)), (208, av_q (.iadd)), (209, av_q (.iaload)), (210, av_q (.aload_n 0)), (211, av_q (.iload_n 3)), (212, av_q (.iconst 5)), (213, av_q (.iadd)), (214, av_q (.iaload)), (215, av_qc (.invokevirtual 17) 128 5 0 8), (218, av_qa (.if_icmp .eq 1066) 1284), (221, av_q (.iconst 0)), (222, av_qa (.ireturn) 1), (223, av_q (.aload_n 1)), (224, av_q (.aload_n 0)), (225, av_q (.iload_n 3)), (226, av_q (.iconst 1)), (227, av_q (.iadd)), (228, av_q (.iaload)), (229, av_qc (.invokevirtual 18) 95 1 0 7), (232, av_q (.aload_n 2)), (233, av_q (.aload_n 0)), (234, av_q (.iload_n 3)), (235, av_q (.iconst 1)), (236, av_q (.iadd)), (237, av_q (.iaload)), (238, av_qc (.invokevirtual 22) 148 1 0 8), (241, av_qa (.if_icmp .eq 1043) 1284), (244, av_q (.iconst 0)), (245, av_qa (.ireturn) 1), (246, av_q (.aload_n 1)), (247, av_q (.aload_n 0)), (248, av_q (.iload_n 3)), (249, av_q (.iconst 1)), (250, av_q (.iadd)), (251, av_q (.iaload)), (252, av_q (.aload_n 0)), (253, av_q (.iload_n 3)), (254, av_q (.iconst 2)), (255, av_q (.iadd)), (256, av_q (.iaload)), (257, av_qc (.invokevirtual 23) 96 2 0 7), (260, av_q (.aload_n 2)), (261, av_q (.aload_n 0)), (262, av_q (.iload_n 3)), (263, av_q (.iconst 1)), (264, av_q (.iadd)), (265, av_q (.iaload)), (266, av_q (.aload_n 0)), (267, av_q (.iload_n 3)), (268, av_q (.iconst 2)), (269, av_q (.iadd)), (270, av_q (.iaload)), (271, av_qc (.invokevirtual 27) 151 2 0 8)]
set_option maxRecDepth 100000 in
set_option maxHeartbeats 2000000 in
theorem dk_L_1 : cd_L_1.all av_dokL = true := by decide +kernel
def cd_L_2 : List (Nat × av_E) := [(274, av_qa (.if_icmp .eq 1010) 1284), (277, av_q (.iconst 0)), (278, av_qa (.ireturn) 1), (279, av_q (.aload_n 1)), (280, av_q (.aload_n 0)), (281, av_q (.iload_n 3)), (282, av_q (.iconst 1)), (283, av_q (.iadd)), (284, av_q (.iaload)), (285, av_qc (.invokevirtual 28) 97 1 0 7), (288, av_q (.aload_n 2)), (289, av_q (.aload_n 0)), (290, av_q (.iload_n 3)), (291, av_q (.iconst 1)), (292, av_q (.iadd)), (293, av_q (.iaload)), (294, av_qc (.invokevirtual 31) 156 1 0 8), (297, av_qa (.if_icmp .eq 987) 1284), (300, av_q (.iconst 0)), (301, av_qa (.ireturn) 1), (302, av_q (.aload_n 1)), (303, av_q (.aload_n 0)), (304, av_q (.iload_n 3)), (305, av_q (.iconst 1)), (306, av_q (.iadd)), (307, av_q (.iaload)), (308, av_qc (.invokevirtual 32) 98 1 0 7), (311, av_q (.aload_n 2)), (312, av_q (.aload_n 0)), (313, av_q (.iload_n 3)), (314, av_q (.iconst 1)), (315, av_q (.iadd)), (316, av_q (.iaload)), (317, av_qc (.invokevirtual 35) 157 1 0 8), (320, av_qa (.if_icmp .eq 964) 1284), (323, av_q (.iconst 0)), (324, av_qa (.ireturn) 1), (325, av_q (.aload_n 1)), (326, av_qc (.invokevirtual 36) 100 0 0 7), (329, av_q (.aload_n 2)), (330, av_qc (.invokevirtual 40) 158 0 0 8), (333, av_qa (.if_icmp .eq 951) 1284), (336, av_q (.iconst 0)), (337, av_qa (.ireturn) 1), (338, av_q (.aload_n 1)), (339, av_q (.aload_n 0)), (340, av_q (.iload_n 3)), (341, av_q (.iconst 1)), (342, av_q (.iadd)), (343, av_q (.iaload)), (344, av_q (.aload_n 0)), (345, av_q (.iload_n 3)), (346, av_q (.iconst 2)), (347, av_q (.iadd)), (348, av_q (.iaload)), (349, av_q (.aload_n 0)), (350, av_q (.iload_n 3)), (351, av_q (.iconst 3)), (352, av_q (.iadd)), (353, av_q (.iaload))]
set_option maxRecDepth 100000 in
set_option maxHeartbeats 2000000 in
theorem dk_L_2 : cd_L_2.all av_dokL = true := by decide +kernel
def cd_L_3 : List (Nat × av_E) := [(354, av_qc (.invokevirtual 41) 101 3 0 7), (357, av_q (.aload_n 2)), (358, av_q (.aload_n 0)), (359, av_q (.iload_n 3)), (360, av_q (.iconst 1)), (361, av_q (.iadd)), (362, av_q (.iaload)), (363, av_q (.aload_n 0)), (364, av_q (.iload_n 3)), (365, av_q (.iconst 2)), (366, av_q (.iadd)), (367, av_q (.iaload)), (368, av_q (.aload_n 0)), (369, av_q (.iload_n 3)), (370, av_q (.iconst 3)), (371, av_q (.iadd)), (372, av_q (.iaload)), (373, av_qc (.invokevirtual 45) 161 3 0 8), (376, av_qa (.if_icmp .eq 908) 1284), (379, av_q (.iconst 0)), (380, av_qa (.ireturn) 1), (381, av_q (.aload_n 1)), (382, av_q (.aload_n 0)), (383, av_q (.iload_n 3)), (384, av_q (.iconst 1)), (385, av_q (.iadd)), (386, av_q (.iaload)), (387, av_q (.aload_n 0)), (388, av_q (.iload_n 3)), (389, av_q (.iconst 2)), (390, av_q (.iadd)), (391, av_q (.iaload)), (392, av_qc (.invokevirtual 46) 103 2 0 7), (395, av_q (.aload_n 2)), (396, av_q (.aload_n 0)), (397, av_q (.iload_n 3)), (398, av_q (.iconst 1)), (399, av_q (.iadd)), (400, av_q (.iaload)), (401, av_q (.aload_n 0)), (402, av_q (.iload_n 3)), (403, av_q (.iconst 2)), (404, av_q (.iadd)), (405, av_q (.iaload)), (406, av_qc (.invokevirtual 49) 187 2 0 8), (409, av_qa (.if_icmp .eq 875) 1284), (412, av_q (.iconst 0)), (413, av_qa (.ireturn) 1), (414, av_q (.aload_n 1)), (415, av_q (.aload_n 0)), (416, av_q (.iload_n 3)), (417, av_q (.iconst 1)), (418, av_q (.iadd)), (419, av_q (.iaload)), (420, av_q (.aload_n 0)), (421, av_q (.iload_n 3)), (422, av_q (.iconst 2)), (423, av_q (.iadd)), (424, av_q (.iaload)), (425, av_q (.aload_n 0))]
set_option maxRecDepth 100000 in
set_option maxHeartbeats 2000000 in
theorem dk_L_3 : cd_L_3.all av_dokL = true := by decide +kernel
def cd_L_4 : List (Nat × av_E) := [(426, av_q (.iload_n 3)), (427, av_q (.iconst 3)), (428, av_q (.iadd)), (429, av_q (.iaload)), (430, av_q (.aload_n 0)), (431, av_q (.iload_n 3)), (432, av_q (.iconst 4)), (433, av_q (.iadd)), (434, av_q (.iaload)), (435, av_qc (.invokevirtual 50) 104 4 0 7), (438, av_q (.aload_n 2)), (439, av_q (.aload_n 0)), (440, av_q (.iload_n 3)), (441, av_q (.iconst 1)), (442, av_q (.iadd)), (443, av_q (.iaload)), (444, av_q (.aload_n 0)), (445, av_q (.iload_n 3)), (446, av_q (.iconst 2)), (447, av_q (.iadd)), (448, av_q (.iaload)), (449, av_q (.aload_n 0)), (450, av_q (.iload_n 3)), (451, av_q (.iconst 3)), (452, av_q (.iadd)), (453, av_q (.iaload)), (454, av_q (.aload_n 0)), (455, av_q (.iload_n 3)), (456, av_q (.iconst 4)), (457, av_q (.iadd)), (458, av_q (.iaload)), (459, av_qc (.invokevirtual 54) 189 4 0 8), (462, av_qa (.if_icmp .eq 822) 1284), (465, av_q (.iconst 0)), (466, av_qa (.ireturn) 1), (467, av_q (.aload_n 1)), (468, av_q (.aload_n 0)), (469, av_q (.iload_n 3)), (470, av_q (.iconst 1)), (471, av_q (.iadd)), (472, av_q (.iaload)), (473, av_q (.aload_n 0)), (474, av_q (.iload_n 3)), (475, av_q (.iconst 2)), (476, av_q (.iadd)), (477, av_q (.iaload)), (478, av_qc (.invokevirtual 55) 105 2 0 7), (481, av_q (.aload_n 2)), (482, av_q (.aload_n 0)), (483, av_q (.iload_n 3)), (484, av_q (.iconst 1)), (485, av_q (.iadd)), (486, av_q (.iaload)), (487, av_q (.aload_n 0)), (488, av_q (.iload_n 3)), (489, av_q (.iconst 2)), (490, av_q (.iadd)), (491, av_q (.iaload)), (492, av_qc (.invokevirtual 58) 160 2 0 8), (495, av_qa (.if_icmp .eq 789) 1284)]
set_option maxRecDepth 100000 in
set_option maxHeartbeats 2000000 in
theorem dk_L_4 : cd_L_4.all av_dokL = true := by decide +kernel
def cd_L_5 : List (Nat × av_E) := [(498, av_q (.iconst 0)), (499, av_qa (.ireturn) 1), (500, av_q (.aload_n 1)), (501, av_q (.aload_n 0)), (502, av_q (.iload_n 3)), (503, av_q (.iconst 1)), (504, av_q (.iadd)), (505, av_q (.iaload)), (506, av_q (.aload_n 0)), (507, av_q (.iload_n 3)), (508, av_q (.iconst 2)), (509, av_q (.iadd)), (510, av_q (.iaload)), (511, av_q (.aload_n 0)), (512, av_q (.iload_n 3)), (513, av_q (.iconst 3)), (514, av_q (.iadd)), (515, av_q (.iaload)), (516, av_q (.aload_n 0)), (517, av_q (.iload_n 3)), (518, av_q (.iconst 4)), (519, av_q (.iadd)), (520, av_q (.iaload)), (521, av_qc (.invokevirtual 59) 106 4 0 7), (524, av_q (.aload_n 2)), (525, av_q (.aload_n 0)), (526, av_q (.iload_n 3)), (527, av_q (.iconst 1)), (528, av_q (.iadd)), (529, av_q (.iaload)), (530, av_q (.aload_n 0)), (531, av_q (.iload_n 3)), (532, av_q (.iconst 2)), (533, av_q (.iadd)), (534, av_q (.iaload)), (535, av_q (.aload_n 0)), (536, av_q (.iload_n 3)), (537, av_q (.iconst 3)), (538, av_q (.iadd)), (539, av_q (.iaload)), (540, av_q (.aload_n 0)), (541, av_q (.iload_n 3)), (542, av_q (.iconst 4)), (543, av_q (.iadd)), (544, av_q (.iaload)), (545, av_qc (.invokevirtual 62) 190 4 0 8), (548, av_qa (.if_icmp .eq 736) 1284), (551, av_q (.iconst 0)), (552, av_qa (.ireturn) 1), (553, av_q (.aload_n 1)), (554, av_q (.aload_n 0)), (555, av_q (.iload_n 3)), (556, av_q (.iconst 1)), (557, av_q (.iadd)), (558, av_q (.iaload)), (559, av_q (.aload_n 0)), (560, av_q (.iload_n 3)), (561, av_q (.iconst 2)), (562, av_q (.iadd)), (563, av_q (.iaload))]
set_option maxRecDepth 100000 in
set_option maxHeartbeats 2000000 in
theorem dk_L_5 : cd_L_5.all av_dokL = true := by decide +kernel
def cd_L_6 : List (Nat × av_E) := [(564, av_q (.aload_n 0)), (565, av_q (.iload_n 3)), (566, av_q (.iconst 3)), (567, av_q (.iadd)), (568, av_q (.iaload)), (569, av_q (.aload_n 0)), (570, av_q (.iload_n 3)), (571, av_q (.iconst 4)), (572, av_q (.iadd)), (573, av_q (.iaload)), (574, av_q (.aload_n 0)), (575, av_q (.iload_n 3)), (576, av_q (.iconst 5)), (577, av_q (.iadd)), (578, av_q (.iaload)), (579, av_qc (.invokevirtual 63) 107 5 0 7), (582, av_q (.aload_n 2)), (583, av_q (.aload_n 0)), (584, av_q (.iload_n 3)), (585, av_q (.iconst 1)), (586, av_q (.iadd)), (587, av_q (.iaload)), (588, av_q (.aload_n 0)), (589, av_q (.iload_n 3)), (590, av_q (.iconst 2)), (591, av_q (.iadd)), (592, av_q (.iaload)), (593, av_q (.aload_n 0)), (594, av_q (.iload_n 3)), (595, av_q (.iconst 3)), (596, av_q (.iadd)), (597, av_q (.iaload)), (598, av_q (.aload_n 0)), (599, av_q (.iload_n 3)), (600, av_q (.iconst 4)), (601, av_q (.iadd)), (602, av_q (.iaload)), (603, av_q (.aload_n 0)), (604, av_q (.iload_n 3)), (605, av_q (.iconst 5)), (606, av_q (.iadd)), (607, av_q (.iaload)), (608, av_qc (.invokevirtual 66) 191 5 0 8), (611, av_qa (.if_icmp .eq 673) 1284), (614, av_q (.iconst 0)), (615, av_qa (.ireturn) 1), (616, av_q (.aload_n 1)), (617, av_q (.aload_n 0)), (618, av_q (.iload_n 3)), (619, av_q (.iconst 1)), (620, av_q (.iadd)), (621, av_q (.iaload)), (622, av_q (.aload_n 0)), (623, av_q (.iload_n 3)), (624, av_q (.iconst 2)), (625, av_q (.iadd)), (626, av_q (.iaload)), (627, av_q (.aload_n 0)), (628, av_q (.iload_n 3)), (629, av_q (.iconst 3))]
set_option maxRecDepth 100000 in
set_option maxHeartbeats 2000000 in
theorem dk_L_6 : cd_L_6.all av_dokL = true := by decide +kernel
def cd_L_7 : List (Nat × av_E) := [(630, av_q (.iadd)), (631, av_q (.iaload)), (632, av_qc (.invokevirtual 67) 108 3 0 7), (635, av_q (.aload_n 2)), (636, av_q (.aload_n 0)), (637, av_q (.iload_n 3)), (638, av_q (.iconst 1)), (639, av_q (.iadd)), (640, av_q (.iaload)), (641, av_q (.aload_n 0)), (642, av_q (.iload_n 3)), (643, av_q (.iconst 2)), (644, av_q (.iadd)), (645, av_q (.iaload)), (646, av_q (.aload_n 0)), (647, av_q (.iload_n 3)), (648, av_q (.iconst 3)), (649, av_q (.iadd)), (650, av_q (.iaload)), (651, av_qc (.invokevirtual 70) 192 3 0 8), (654, av_qa (.if_icmp .eq 630) 1284), (657, av_q (.iconst 0)), (658, av_qa (.ireturn) 1), (659, av_q (.aload_n 1)), (660, av_q (.aload_n 0)), (661, av_q (.iload_n 3)), (662, av_q (.iconst 1)), (663, av_q (.iadd)), (664, av_q (.iaload)), (665, av_q (.aload_n 0)), (666, av_q (.iload_n 3)), (667, av_q (.iconst 2)), (668, av_q (.iadd)), (669, av_q (.iaload)), (670, av_q (.aload_n 0)), (671, av_q (.iload_n 3)), (672, av_q (.iconst 3)), (673, av_q (.iadd)), (674, av_q (.iaload)), (675, av_qc (.invokevirtual 71) 109 3 0 7), (678, av_q (.aload_n 2)), (679, av_q (.aload_n 0)), (680, av_q (.iload_n 3)), (681, av_q (.iconst 1)), (682, av_q (.iadd)), (683, av_q (.iaload)), (684, av_q (.aload_n 0)), (685, av_q (.iload_n 3)), (686, av_q (.iconst 2)), (687, av_q (.iadd)), (688, av_q (.iaload)), (689, av_q (.aload_n 0)), (690, av_q (.iload_n 3)), (691, av_q (.iconst 3)), (692, av_q (.iadd)), (693, av_q (.iaload)), (694, av_qc (.invokevirtual 74) 193 3 0 8), (697, av_qa (.if_icmp .eq 587) 1284), (700, av_q (.iconst 0)), (701, av_qa (.ireturn) 1)]
set_option maxRecDepth 100000 in
set_option maxHeartbeats 2000000 in
theorem dk_L_7 : cd_L_7.all av_dokL = true := by decide +kernel
def cd_L_8 : List (Nat × av_E) := [(702, av_q (.aload_n 1)), (703, av_q (.aload_n 0)), (704, av_q (.iload_n 3)), (705, av_q (.iconst 1)), (706, av_q (.iadd)), (707, av_q (.iaload)), (708, av_q (.aload_n 0)), (709, av_q (.iload_n 3)), (710, av_q (.iconst 2)), (711, av_q (.iadd)), (712, av_q (.iaload)), (713, av_qc (.invokevirtual 75) 110 2 0 7), (716, av_q (.aload_n 2)), (717, av_q (.aload_n 0)), (718, av_q (.iload_n 3)), (719, av_q (.iconst 1)), (720, av_q (.iadd)), (721, av_q (.iaload)), (722, av_q (.aload_n 0)), (723, av_q (.iload_n 3)), (724, av_q (.iconst 2)), (725, av_q (.iadd)), (726, av_q (.iaload)), (727, av_qc (.invokevirtual 78) 197 2 0 8), (730, av_qa (.if_icmp .eq 554) 1284), (733, av_q (.iconst 0)), (734, av_qa (.ireturn) 1), (735, av_q (.aload_n 1)), (736, av_q (.aload_n 0)), (737, av_q (.iload_n 3)), (738, av_q (.iconst 1)), (739, av_q (.iadd)), (740, av_q (.iaload)), (741, av_q (.aload_n 0)), (742, av_q (.iload_n 3)), (743, av_q (.iconst 2)), (744, av_q (.iadd)), (745, av_q (.iaload)), (746, av_q (.aload_n 0)), (747, av_q (.iload_n 3)), (748, av_q (.iconst 3)), (749, av_q (.iadd)), (750, av_q (.iaload)), (751, av_q (.aload_n 0)), (752, av_q (.iload_n 3)), (753, av_q (.iconst 4)), (754, av_q (.iadd)), (755, av_q (.iaload)), (756, av_qc (.invokevirtual 79) 111 4 0 7), (759, av_q (.aload_n 2)), (760, av_q (.aload_n 0)), (761, av_q (.iload_n 3)), (762, av_q (.iconst 1)), (763, av_q (.iadd)), (764, av_q (.iaload)), (765, av_q (.aload_n 0)), (766, av_q (.iload_n 3)), (767, av_q (.iconst 2)), (768, av_q (.iadd)), (769, av_q (.iaload))]
set_option maxRecDepth 100000 in
set_option maxHeartbeats 2000000 in
theorem dk_L_8 : cd_L_8.all av_dokL = true := by decide +kernel
def cd_L_9 : List (Nat × av_E) := [(770, av_q (.aload_n 0)), (771, av_q (.iload_n 3)), (772, av_q (.iconst 3)), (773, av_q (.iadd)), (774, av_q (.iaload)), (775, av_q (.aload_n 0)), (776, av_q (.iload_n 3)), (777, av_q (.iconst 4)), (778, av_q (.iadd)), (779, av_q (.iaload)), (780, av_qc (.invokevirtual 82) 198 4 0 8), (783, av_qa (.if_icmp .eq 501) 1284), (786, av_q (.iconst 0)), (787, av_qa (.ireturn) 1), (788, av_q (.aload_n 1)), (789, av_q (.aload_n 0)), (790, av_q (.iload_n 3)), (791, av_q (.iconst 1)), (792, av_q (.iadd)), (793, av_q (.iaload)), (794, av_q (.aload_n 0)), (795, av_q (.iload_n 3)), (796, av_q (.iconst 2)), (797, av_q (.iadd)), (798, av_q (.iaload)), (799, av_q (.aload_n 0)), (800, av_q (.iload_n 3)), (801, av_q (.iconst 3)), (802, av_q (.iadd)), (803, av_q (.iaload)), (804, av_q (.aload_n 0)), (805, av_q (.iload_n 3)), (806, av_q (.iconst 4)), (807, av_q (.iadd)), (808, av_q (.iaload)), (809, av_q (.aload_n 0)), (810, av_q (.iload_n 3)), (811, av_q (.iconst 5)), (812, av_q (.iadd)), (813, av_q (.iaload)), (814, av_qc (.invokevirtual 83) 112 5 0 7), (817, av_q (.aload_n 2)), (818, av_q (.aload_n 0)), (819, av_q (.iload_n 3)), (820, av_q (.iconst 1)), (821, av_q (.iadd)), (822, av_q (.iaload)), (823, av_q (.aload_n 0)), (824, av_q (.iload_n 3)), (825, av_q (.iconst 2)), (826, av_q (.iadd)), (827, av_q (.iaload)), (828, av_q (.aload_n 0)), (829, av_q (.iload_n 3)), (830, av_q (.iconst 3)), (831, av_q (.iadd)), (832, av_q (.iaload)), (833, av_q (.aload_n 0)), (834, av_q (.iload_n 3)), (835, av_q (.iconst 4))]
set_option maxRecDepth 100000 in
set_option maxHeartbeats 2000000 in
theorem dk_L_9 : cd_L_9.all av_dokL = true := by decide +kernel
def cd_L_10 : List (Nat × av_E) := [(836, av_q (.iadd)), (837, av_q (.iaload)), (838, av_q (.aload_n 0)), (839, av_q (.iload_n 3)), (840, av_q (.iconst 5)), (841, av_q (.iadd)), (842, av_q (.iaload)), (843, av_qc (.invokevirtual 86) 199 5 0 8), (846, av_qa (.if_icmp .eq 438) 1284), (849, av_q (.iconst 0)), (850, av_qa (.ireturn) 1), (851, av_q (.aload_n 1)), (852, av_q (.aload_n 0)), (853, av_q (.iload_n 3)), (854, av_q (.iconst 1)), (855, av_q (.iadd)), (856, av_q (.iaload)), (857, av_q (.aload_n 0)), (858, av_q (.iload_n 3)), (859, av_q (.iconst 2)), (860, av_q (.iadd)), (861, av_q (.iaload)), (862, av_q (.aload_n 0)), (863, av_q (.iload_n 3)), (864, av_q (.iconst 3)), (865, av_q (.iadd)), (866, av_q (.iaload)), (867, av_q (.aload_n 0)), (868, av_q (.iload_n 3)), (869, av_q (.iconst 4)), (870, av_q (.iadd)), (871, av_q (.iaload)), (872, av_qc (.invokevirtual 87) 113 4 0 7), (875, av_q (.aload_n 2)), (876, av_q (.aload_n 0)), (877, av_q (.iload_n 3)), (878, av_q (.iconst 1)), (879, av_q (.iadd)), (880, av_q (.iaload)), (881, av_q (.aload_n 0)), (882, av_q (.iload_n 3)), (883, av_q (.iconst 2)), (884, av_q (.iadd)), (885, av_q (.iaload)), (886, av_q (.aload_n 0)), (887, av_q (.iload_n 3)), (888, av_q (.iconst 3)), (889, av_q (.iadd)), (890, av_q (.iaload)), (891, av_q (.aload_n 0)), (892, av_q (.iload_n 3)), (893, av_q (.iconst 4)), (894, av_q (.iadd)), (895, av_q (.iaload)), (896, av_qc (.invokevirtual 90) 201 4 0 8), (899, av_qa (.if_icmp .eq 385) 1284), (902, av_q (.iconst 0)), (903, av_qa (.ireturn) 1), (904, av_q (.aload_n 1)), (905, av_q (.aload_n 0))]
set_option maxRecDepth 100000 in
set_option maxHeartbeats 2000000 in
theorem dk_L_10 : cd_L_10.all av_dokL = true := by decide +kernel
def cd_L_11 : List (Nat × av_E) := [(906, av_q (.iload_n 3)), (907, av_q (.iconst 1)), (908, av_q (.iadd)), (909, av_q (.iaload)), (910, av_q (.aload_n 0)), (911, av_q (.iload_n 3)), (912, av_q (.iconst 2)), (913, av_q (.iadd)), (914, av_q (.iaload)), (915, av_qc (.invokevirtual 91) 114 2 0 7), (918, av_q (.aload_n 2)), (919, av_q (.aload_n 0)), (920, av_q (.iload_n 3)), (921, av_q (.iconst 1)), (922, av_q (.iadd)), (923, av_q (.iaload)), (924, av_q (.aload_n 0)), (925, av_q (.iload_n 3)), (926, av_q (.iconst 2)), (927, av_q (.iadd)), (928, av_q (.iaload)), (929, av_qc (.invokevirtual 94) 202 2 0 8), (932, av_qa (.if_icmp .eq 352) 1284), (935, av_q (.iconst 0)), (936, av_qa (.ireturn) 1), (937, av_q (.aload_n 1)), (938, av_q (.aload_n 0)), (939, av_q (.iload_n 3)), (940, av_q (.iconst 1)), (941, av_q (.iadd)), (942, av_q (.iaload)), (943, av_qc (.invokevirtual 95) 115 1 0 7), (946, av_q (.aload_n 2)), (947, av_q (.aload_n 0)), (948, av_q (.iload_n 3)), (949, av_q (.iconst 1)), (950, av_q (.iadd)), (951, av_q (.iaload)), (952, av_qc (.invokevirtual 98) 204 1 0 8), (955, av_qa (.if_icmp .eq 329) 1284), (958, av_q (.iconst 0)), (959, av_qa (.ireturn) 1), (960, av_q (.aload_n 1)), (961, av_q (.aload_n 0)), (962, av_q (.iload_n 3)), (963, av_q (.iconst 1)), (964, av_q (.iadd)), (965, av_q (.iaload)), (966, av_q (.aload_n 0)), (967, av_q (.iload_n 3)), (968, av_q (.iconst 2)), (969, av_q (.iadd)), (970, av_q (.iaload)), (971, av_q (.aload_n 0)), (972, av_q (.iload_n 3)), (973, av_q (.iconst 3)), (974, av_q (.iadd)), (975, av_q (.iaload)), (976, av_q (.aload_n 0)), (977, av_q (.iload_n 3))]
set_option maxRecDepth 100000 in
set_option maxHeartbeats 2000000 in
theorem dk_L_11 : cd_L_11.all av_dokL = true := by decide +kernel
def cd_L_12 : List (Nat × av_E) := [(978, av_q (.iconst 4)), (979, av_q (.iadd)), (980, av_q (.iaload)), (981, av_qc (.invokevirtual 99) 116 4 0 7), (984, av_q (.aload_n 2)), (985, av_q (.aload_n 0)), (986, av_q (.iload_n 3)), (987, av_q (.iconst 1)), (988, av_q (.iadd)), (989, av_q (.iaload)), (990, av_q (.aload_n 0)), (991, av_q (.iload_n 3)), (992, av_q (.iconst 2)), (993, av_q (.iadd)), (994, av_q (.iaload)), (995, av_q (.aload_n 0)), (996, av_q (.iload_n 3)), (997, av_q (.iconst 3)), (998, av_q (.iadd)), (999, av_q (.iaload)), (1000, av_q (.aload_n 0)), (1001, av_q (.iload_n 3)), (1002, av_q (.iconst 4)), (1003, av_q (.iadd)), (1004, av_q (.iaload)), (1005, av_qc (.invokevirtual 102) 205 4 0 8), (1008, av_qa (.if_icmp .eq 276) 1284), (1011, av_q (.iconst 0)), (1012, av_qa (.ireturn) 1), (1013, av_q (.aload_n 1)), (1014, av_q (.aload_n 0)), (1015, av_q (.iload_n 3)), (1016, av_q (.iconst 1)), (1017, av_q (.iadd)), (1018, av_q (.iaload)), (1019, av_q (.aload_n 0)), (1020, av_q (.iload_n 3)), (1021, av_q (.iconst 2)), (1022, av_q (.iadd)), (1023, av_q (.iaload)), (1024, av_q (.aload_n 0)), (1025, av_q (.iload_n 3)), (1026, av_q (.iconst 3)), (1027, av_q (.iadd)), (1028, av_q (.iaload)), (1029, av_q (.aload_n 0)), (1030, av_q (.iload_n 3)), (1031, av_q (.iconst 4)), (1032, av_q (.iadd)), (1033, av_q (.iaload)), (1034, av_q (.aload_n 0)), (1035, av_q (.iload_n 3)), (1036, av_q (.iconst 5)), (1037, av_q (.iadd)), (1038, av_q (.iaload)), (1039, av_qc (.invokevirtual 103) 117 5 0 7), (1042, av_q (.aload_n 2)), (1043, av_q (.aload_n 0)), (1044, av_q (.iload_n 3)), (1045, av_q (.iconst 1))]
set_option maxRecDepth 100000 in
set_option maxHeartbeats 2000000 in
theorem dk_L_12 : cd_L_12.all av_dokL = true := by decide +kernel
def cd_L_13 : List (Nat × av_E) := [(1046, av_q (.iadd)), (1047, av_q (.iaload)), (1048, av_q (.aload_n 0)), (1049, av_q (.iload_n 3)), (1050, av_q (.iconst 2)), (1051, av_q (.iadd)), (1052, av_q (.iaload)), (1053, av_q (.aload_n 0)), (1054, av_q (.iload_n 3)), (1055, av_q (.iconst 3)), (1056, av_q (.iadd)), (1057, av_q (.iaload)), (1058, av_q (.aload_n 0)), (1059, av_q (.iload_n 3)), (1060, av_q (.iconst 4)), (1061, av_q (.iadd)), (1062, av_q (.iaload)), (1063, av_q (.aload_n 0)), (1064, av_q (.iload_n 3)), (1065, av_q (.iconst 5)), (1066, av_q (.iadd)), (1067, av_q (.iaload)), (1068, av_qc (.invokevirtual 106) 207 5 0 8), (1071, av_qa (.if_icmp .eq 213) 1284), (1074, av_q (.iconst 0)), (1075, av_qa (.ireturn) 1), (1076, av_q (.aload_n 1)), (1077, av_q (.aload_n 0)), (1078, av_q (.iload_n 3)), (1079, av_q (.iconst 1)), (1080, av_q (.iadd)), (1081, av_q (.iaload)), (1082, av_q (.aload_n 0)), (1083, av_q (.iload_n 3)), (1084, av_q (.iconst 2)), (1085, av_q (.iadd)), (1086, av_q (.iaload)), (1087, av_q (.aload_n 0)), (1088, av_q (.iload_n 3)), (1089, av_q (.iconst 3)), (1090, av_q (.iadd)), (1091, av_q (.iaload)), (1092, av_q (.aload_n 0)), (1093, av_q (.iload_n 3)), (1094, av_q (.iconst 4)), (1095, av_q (.iadd)), (1096, av_q (.iaload)), (1097, av_q (.aload_n 0)), (1098, av_q (.iload_n 3)), (1099, av_q (.iconst 5)), (1100, av_q (.iadd)), (1101, av_q (.iaload)), (1102, av_qc (.invokevirtual 107) 118 5 0 7), (1105, av_q (.aload_n 2)), (1106, av_q (.aload_n 0)), (1107, av_q (.iload_n 3)), (1108, av_q (.iconst 1)), (1109, av_q (.iadd)), (1110, av_q (.iaload)), (1111, av_q (.aload_n 0))]
set_option maxRecDepth 100000 in
set_option maxHeartbeats 2000000 in
theorem dk_L_13 : cd_L_13.all av_dokL = true := by decide +kernel
def cd_L_14 : List (Nat × av_E) := [(1112, av_q (.iload_n 3)), (1113, av_q (.iconst 2)), (1114, av_q (.iadd)), (1115, av_q (.iaload)), (1116, av_q (.aload_n 0)), (1117, av_q (.iload_n 3)), (1118, av_q (.iconst 3)), (1119, av_q (.iadd)), (1120, av_q (.iaload)), (1121, av_q (.aload_n 0)), (1122, av_q (.iload_n 3)), (1123, av_q (.iconst 4)), (1124, av_q (.iadd)), (1125, av_q (.iaload)), (1126, av_q (.aload_n 0)), (1127, av_q (.iload_n 3)), (1128, av_q (.iconst 5)), (1129, av_q (.iadd)), (1130, av_q (.iaload)), (1131, av_qc (.invokevirtual 110) 208 5 0 8), (1134, av_qa (.if_icmp .eq 150) 1284), (1137, av_q (.iconst 0)), (1138, av_qa (.ireturn) 1), (1139, av_q (.aload_n 1)), (1140, av_q (.aload_n 0)), (1141, av_q (.iload_n 3)), (1142, av_q (.iconst 1)), (1143, av_q (.iadd)), (1144, av_q (.iaload)), (1145, av_q (.aload_n 0)), (1146, av_q (.iload_n 3)), (1147, av_q (.iconst 2)), (1148, av_q (.iadd)), (1149, av_q (.iaload)), (1150, av_q (.aload_n 0)), (1151, av_q (.iload_n 3)), (1152, av_q (.iconst 3)), (1153, av_q (.iadd)), (1154, av_q (.iaload)), (1155, av_qc (.invokevirtual 111) 120 3 0 7), (1158, av_q (.aload_n 2)), (1159, av_q (.aload_n 0)), (1160, av_q (.iload_n 3)), (1161, av_q (.iconst 1)), (1162, av_q (.iadd)), (1163, av_q (.iaload)), (1164, av_q (.aload_n 0)), (1165, av_q (.iload_n 3)), (1166, av_q (.iconst 2)), (1167, av_q (.iadd)), (1168, av_q (.iaload)), (1169, av_q (.aload_n 0)), (1170, av_q (.iload_n 3)), (1171, av_q (.iconst 3)), (1172, av_q (.iadd)), (1173, av_q (.iaload)), (1174, av_qc (.invokevirtual 114) 211 3 0 8), (1177, av_qa (.if_icmp .eq 107) 1284), (1180, av_q (.iconst 0)), (1181, av_qa (.ireturn) 1)]
set_option maxRecDepth 100000 in
set_option maxHeartbeats 2000000 in
theorem dk_L_14 : cd_L_14.all av_dokL = true := by decide +kernel
def cd_L_15 : List (Nat × av_E) := [(1182, av_q (.aload_n 1)), (1183, av_q (.aload_n 0)), (1184, av_q (.iload_n 3)), (1185, av_q (.iconst 1)), (1186, av_q (.iadd)), (1187, av_q (.iaload)), (1188, av_q (.aload_n 0)), (1189, av_q (.iload_n 3)), (1190, av_q (.iconst 2)), (1191, av_q (.iadd)), (1192, av_q (.iaload)), (1193, av_q (.aload_n 0)), (1194, av_q (.iload_n 3)), (1195, av_q (.iconst 3)), (1196, av_q (.iadd)), (1197, av_q (.iaload)), (1198, av_qc (.invokevirtual 115) 121 3 0 7), (1201, av_q (.aload_n 2)), (1202, av_q (.aload_n 0)), (1203, av_q (.iload_n 3)), (1204, av_q (.iconst 1)), (1205, av_q (.iadd)), (1206, av_q (.iaload)), (1207, av_q (.aload_n 0)), (1208, av_q (.iload_n 3)), (1209, av_q (.iconst 2)), (1210, av_q (.iadd)), (1211, av_q (.iaload)), (1212, av_q (.aload_n 0)), (1213, av_q (.iload_n 3)), (1214, av_q (.iconst 3)), (1215, av_q (.iadd)), (1216, av_q (.iaload)), (1217, av_qc (.invokevirtual 118) 212 3 0 8), (1220, av_qa (.if_icmp .eq 64) 1284), (1223, av_q (.iconst 0)), (1224, av_qa (.ireturn) 1), (1225, av_q (.aload_n 1)), (1226, av_qc (.invokevirtual 119) 123 0 0 7), (1229, av_q (.aload_n 2)), (1230, av_qc (.invokevirtual 122) 214 0 0 8), (1233, av_qa (.if_icmp .eq 51) 1284), (1236, av_q (.iconst 0)), (1237, av_qa (.ireturn) 1), (1238, av_q (.aload_n 1)), (1239, av_q (.aload_n 0)), (1240, av_q (.iload_n 3)), (1241, av_q (.iconst 1)), (1242, av_q (.iadd)), (1243, av_q (.iaload)), (1244, av_qc (.invokevirtual 123) 124 1 0 7), (1247, av_q (.aload_n 2)), (1248, av_q (.aload_n 0)), (1249, av_q (.iload_n 3)), (1250, av_q (.iconst 1)), (1251, av_q (.iadd)), (1252, av_q (.iaload)), (1253, av_qc (.invokevirtual 127) 215 1 0 8), (1256, av_qa (.if_icmp .eq 28) 1284), (1259, av_q (.iconst 0))]
set_option maxRecDepth 100000 in
set_option maxHeartbeats 2000000 in
theorem dk_L_15 : cd_L_15.all av_dokL = true := by decide +kernel
def cd_L_16 : List (Nat × av_E) := [(1260, av_qa (.ireturn) 1), (1261, av_q (.aload_n 1)), (1262, av_q (.aload_n 0)), (1263, av_q (.iload_n 3)), (1264, av_q (.iconst 1)), (1265, av_q (.iadd)), (1266, av_q (.iaload)), (1267, av_qc (.invokevirtual 128) 125 1 0 7), (1270, av_q (.aload_n 2)), (1271, av_q (.aload_n 0)), (1272, av_q (.iload_n 3)), (1273, av_q (.iconst 1)), (1274, av_q (.iadd)), (1275, av_q (.iaload)), (1276, av_qc (.invokevirtual 131) 217 1 0 8), (1279, av_qa (.if_icmp .eq 5) 1284), (1282, av_q (.iconst 0)), (1283, av_qa (.ireturn) 1), (1284, av_q (.iinc 3 6)), (1287, av_qa (.goto (-1269)) 18), (1290, av_q (.iconst 1)), (1291, av_qa (.ireturn) 1)]
set_option maxRecDepth 100000 in
set_option maxHeartbeats 2000000 in
theorem dk_L_16 : cd_L_16.all av_dokL = true := by decide +kernel
set_option maxRecDepth 100000 in
set_option maxHeartbeats 2000000 in
theorem cd_L_eq : cd_L = cd_L_0 ++ (cd_L_1 ++ (cd_L_2 ++ (cd_L_3 ++ (cd_L_4 ++ (cd_L_5 ++ (cd_L_6 ++ (cd_L_7 ++ (cd_L_8 ++ (cd_L_9 ++ (cd_L_10 ++ (cd_L_11 ++ (cd_L_12 ++ (cd_L_13 ++ (cd_L_14 ++ (cd_L_15 ++ (cd_L_16)))))))))))))))) := rfl
theorem dk_L : av_dok av_TT ms_L := by
  refine av_dokB_ok ?_
  show cd_L.all av_dokL = true
  rw [cd_L_eq]
  simp only [List.all_append, Bool.and_eq_true, dk_L_0, dk_L_1, dk_L_2, dk_L_3, dk_L_4, dk_L_5, dk_L_6, dk_L_7, dk_L_8, dk_L_9, dk_L_10, dk_L_11, dk_L_12, dk_L_13, dk_L_14, dk_L_15, dk_L_16, and_self]
def av_ms_0 : List av_Mr := [ms_0, ms_1, ms_2, ms_3, ms_4, ms_5, ms_6, ms_7, ms_8, ms_9, ms_10, ms_11, ms_12, ms_13, ms_14, ms_15, ms_16, ms_17, ms_18, ms_19, ms_20, ms_21, ms_22, ms_23, ms_24, ms_25, ms_26, ms_27, ms_28, ms_29, ms_30, ms_31, ms_32, ms_33, ms_34, ms_35, ms_36, ms_37, ms_38, ms_39]
set_option maxRecDepth 100000 in
set_option maxHeartbeats 2000000 in
theorem av_ms_0_ok : ∀ r ∈ av_ms_0, av_dok av_TT r ∧ av_hok r := List.forall_mem_cons.mpr ⟨⟨dk_0, hk_0⟩, List.forall_mem_cons.mpr ⟨⟨dk_1, hk_1⟩, List.forall_mem_cons.mpr ⟨⟨dk_2, hk_2⟩, List.forall_mem_cons.mpr ⟨⟨dk_3, hk_3⟩, List.forall_mem_cons.mpr ⟨⟨dk_4, hk_4⟩, List.forall_mem_cons.mpr ⟨⟨dk_5, hk_5⟩, List.forall_mem_cons.mpr ⟨⟨dk_6, hk_6⟩, List.forall_mem_cons.mpr ⟨⟨dk_7, hk_7⟩, List.forall_mem_cons.mpr ⟨⟨dk_8, hk_8⟩, List.forall_mem_cons.mpr ⟨⟨dk_9, hk_9⟩, List.forall_mem_cons.mpr ⟨⟨dk_10, hk_10⟩, List.forall_mem_cons.mpr ⟨⟨dk_11, hk_11⟩, List.forall_mem_cons.mpr ⟨⟨dk_12, hk_12⟩, List.forall_mem_cons.mpr ⟨⟨dk_13, hk_13⟩, List.forall_mem_cons.mpr ⟨⟨dk_14, hk_14⟩, List.forall_mem_cons.mpr ⟨⟨dk_15, hk_15⟩, List.forall_mem_cons.mpr ⟨⟨dk_16, hk_16⟩, List.forall_mem_cons.mpr ⟨⟨dk_17, hk_17⟩, List.forall_mem_cons.mpr ⟨⟨dk_18, hk_18⟩, List.forall_mem_cons.mpr ⟨⟨dk_19, hk_19⟩, List.forall_mem_cons.mpr ⟨⟨dk_20, hk_20⟩, List.forall_mem_cons.mpr ⟨⟨dk_21, hk_21⟩, List.forall_mem_cons.mpr ⟨⟨dk_22, hk_22⟩, List.forall_mem_cons.mpr ⟨⟨dk_23, hk_23⟩, List.forall_mem_cons.mpr ⟨⟨dk_24, hk_24⟩, List.forall_mem_cons.mpr ⟨⟨dk_25, hk_25⟩, List.forall_mem_cons.mpr ⟨⟨dk_26, hk_26⟩, List.forall_mem_cons.mpr ⟨⟨dk_27, hk_27⟩, List.forall_mem_cons.mpr ⟨⟨dk_28, hk_28⟩, List.forall_mem_cons.mpr ⟨⟨dk_29, hk_29⟩, List.forall_mem_cons.mpr ⟨⟨dk_30, hk_30⟩, List.forall_mem_cons.mpr ⟨⟨dk_31, hk_31⟩, List.forall_mem_cons.mpr ⟨⟨dk_32, hk_32⟩, List.forall_mem_cons.mpr ⟨⟨dk_33, hk_33⟩, List.forall_mem_cons.mpr ⟨⟨dk_34, hk_34⟩, List.forall_mem_cons.mpr ⟨⟨dk_35, hk_35⟩, List.forall_mem_cons.mpr ⟨⟨dk_36, hk_36⟩, List.forall_mem_cons.mpr ⟨⟨dk_37, hk_37⟩, List.forall_mem_cons.mpr ⟨⟨dk_38, hk_38⟩, List.forall_mem_cons.mpr ⟨⟨dk_39, hk_39⟩, fun _ h => absurd h List.not_mem_nil⟩⟩⟩⟩⟩⟩⟩⟩⟩⟩⟩⟩⟩⟩⟩⟩⟩⟩⟩⟩⟩⟩⟩⟩⟩⟩⟩⟩⟩⟩⟩⟩⟩⟩⟩⟩⟩⟩⟩⟩
def av_ms_1 : List av_Mr := [ms_40, ms_41, ms_42, ms_43, ms_44, ms_45, ms_46, ms_47, ms_48, ms_49, ms_50, ms_51, ms_52, ms_53, ms_54, ms_55, ms_56, ms_57, ms_58, ms_59, ms_60, ms_61, ms_62, ms_63, ms_64, ms_65, ms_66, ms_67, ms_68, ms_69, ms_70, ms_71, ms_72, ms_73, ms_74, ms_75, ms_76, ms_77, ms_78, ms_79]
set_option maxRecDepth 100000 in
set_option maxHeartbeats 2000000 in
theorem av_ms_1_ok : ∀ r ∈ av_ms_1, av_dok av_TT r ∧ av_hok r := List.forall_mem_cons.mpr ⟨⟨dk_40, hk_40⟩, List.forall_mem_cons.mpr ⟨⟨dk_41, hk_41⟩, List.forall_mem_cons.mpr ⟨⟨dk_42, hk_42⟩, List.forall_mem_cons.mpr ⟨⟨dk_43, hk_43⟩, List.forall_mem_cons.mpr ⟨⟨dk_44, hk_44⟩, List.forall_mem_cons.mpr ⟨⟨dk_45, hk_45⟩, List.forall_mem_cons.mpr ⟨⟨dk_46, hk_46⟩, List.forall_mem_cons.mpr ⟨⟨dk_47, hk_47⟩, List.forall_mem_cons.mpr ⟨⟨dk_48, hk_48⟩, List.forall_mem_cons.mpr ⟨⟨dk_49, hk_49⟩, List.forall_mem_cons.mpr ⟨⟨dk_50, hk_50⟩, List.forall_mem_cons.mpr ⟨⟨dk_51, hk_51⟩, List.forall_mem_cons.mpr ⟨⟨dk_52, hk_52⟩, List.forall_mem_cons.mpr ⟨⟨dk_53, hk_53⟩, List.forall_mem_cons.mpr ⟨⟨dk_54, hk_54⟩, List.forall_mem_cons.mpr ⟨⟨dk_55, hk_55⟩, List.forall_mem_cons.mpr ⟨⟨dk_56, hk_56⟩, List.forall_mem_cons.mpr ⟨⟨dk_57, hk_57⟩, List.forall_mem_cons.mpr ⟨⟨dk_58, hk_58⟩, List.forall_mem_cons.mpr ⟨⟨dk_59, hk_59⟩, List.forall_mem_cons.mpr ⟨⟨dk_60, hk_60⟩, List.forall_mem_cons.mpr ⟨⟨dk_61, hk_61⟩, List.forall_mem_cons.mpr ⟨⟨dk_62, hk_62⟩, List.forall_mem_cons.mpr ⟨⟨dk_63, hk_63⟩, List.forall_mem_cons.mpr ⟨⟨dk_64, hk_64⟩, List.forall_mem_cons.mpr ⟨⟨dk_65, hk_65⟩, List.forall_mem_cons.mpr ⟨⟨dk_66, hk_66⟩, List.forall_mem_cons.mpr ⟨⟨dk_67, hk_67⟩, List.forall_mem_cons.mpr ⟨⟨dk_68, hk_68⟩, List.forall_mem_cons.mpr ⟨⟨dk_69, hk_69⟩, List.forall_mem_cons.mpr ⟨⟨dk_70, hk_70⟩, List.forall_mem_cons.mpr ⟨⟨dk_71, hk_71⟩, List.forall_mem_cons.mpr ⟨⟨dk_72, hk_72⟩, List.forall_mem_cons.mpr ⟨⟨dk_73, hk_73⟩, List.forall_mem_cons.mpr ⟨⟨dk_74, hk_74⟩, List.forall_mem_cons.mpr ⟨⟨dk_75, hk_75⟩, List.forall_mem_cons.mpr ⟨⟨dk_76, hk_76⟩, List.forall_mem_cons.mpr ⟨⟨dk_77, hk_77⟩, List.forall_mem_cons.mpr ⟨⟨dk_78, hk_78⟩, List.forall_mem_cons.mpr ⟨⟨dk_79, hk_79⟩, fun _ h => absurd h List.not_mem_nil⟩⟩⟩⟩⟩⟩⟩⟩⟩⟩⟩⟩⟩⟩⟩⟩⟩⟩⟩⟩⟩⟩⟩⟩⟩⟩⟩⟩⟩⟩⟩⟩⟩⟩⟩⟩⟩⟩⟩⟩
def av_ms_2 : List av_Mr := [ms_80, ms_81, ms_82, ms_83, ms_84, ms_85, ms_86, ms_87, ms_88, ms_89, ms_90, ms_91, ms_92, ms_93, ms_94, ms_95, ms_96, ms_97, ms_98, ms_99, ms_100, ms_101, ms_102, ms_103, ms_104, ms_105, ms_106, ms_107, ms_108, ms_109, ms_110, ms_111, ms_112, ms_113, ms_114, ms_115, ms_116, ms_117, ms_118, ms_119]
set_option maxRecDepth 100000 in
set_option maxHeartbeats 2000000 in
theorem av_ms_2_ok : ∀ r ∈ av_ms_2, av_dok av_TT r ∧ av_hok r := List.forall_mem_cons.mpr ⟨⟨dk_80, hk_80⟩, List.forall_mem_cons.mpr ⟨⟨dk_81, hk_81⟩, List.forall_mem_cons.mpr ⟨⟨dk_82, hk_82⟩, List.forall_mem_cons.mpr ⟨⟨dk_83, hk_83⟩, List.forall_mem_cons.mpr ⟨⟨dk_84, hk_84⟩, List.forall_mem_cons.mpr ⟨⟨dk_85, hk_85⟩, List.forall_mem_cons.mpr ⟨⟨dk_86, hk_86⟩, List.forall_mem_cons.mpr ⟨⟨dk_87, hk_87⟩, List.forall_mem_cons.mpr ⟨⟨dk_88, hk_88⟩, List.forall_mem_cons.mpr ⟨⟨dk_89, hk_89⟩, List.forall_mem_cons.mpr ⟨⟨dk_90, hk_90⟩, List.forall_mem_cons.mpr ⟨⟨dk_91, hk_91⟩, List.forall_mem_cons.mpr ⟨⟨dk_92, hk_92⟩, List.forall_mem_cons.mpr ⟨⟨dk_93, hk_93⟩, List.forall_mem_cons.mpr ⟨⟨dk_94, hk_94⟩, List.forall_mem_cons.mpr ⟨⟨dk_95, hk_95⟩, List.forall_mem_cons.mpr ⟨⟨dk_96, hk_96⟩, List.forall_mem_cons.mpr ⟨⟨dk_97, hk_97⟩, List.forall_mem_cons.mpr ⟨⟨dk_98, hk_98⟩, List.forall_mem_cons.mpr ⟨⟨dk_99, hk_99⟩, List.forall_mem_cons.mpr ⟨⟨dk_100, hk_100⟩, List.forall_mem_cons.mpr ⟨⟨dk_101, hk_101⟩, List.forall_mem_cons.mpr ⟨⟨dk_102, hk_102⟩, List.forall_mem_cons.mpr ⟨⟨dk_103, hk_103⟩, List.forall_mem_cons.mpr ⟨⟨dk_104, hk_104⟩, List.forall_mem_cons.mpr ⟨⟨dk_105, hk_105⟩, List.forall_mem_cons.mpr ⟨⟨dk_106, hk_106⟩, List.forall_mem_cons.mpr ⟨⟨dk_107, hk_107⟩, List.forall_mem_cons.mpr ⟨⟨dk_108, hk_108⟩, List.forall_mem_cons.mpr ⟨⟨dk_109, hk_109⟩, List.forall_mem_cons.mpr ⟨⟨dk_110, hk_110⟩, List.forall_mem_cons.mpr ⟨⟨dk_111, hk_111⟩, List.forall_mem_cons.mpr ⟨⟨dk_112, hk_112⟩, List.forall_mem_cons.mpr ⟨⟨dk_113, hk_113⟩, List.forall_mem_cons.mpr ⟨⟨dk_114, hk_114⟩, List.forall_mem_cons.mpr ⟨⟨dk_115, hk_115⟩, List.forall_mem_cons.mpr ⟨⟨dk_116, hk_116⟩, List.forall_mem_cons.mpr ⟨⟨dk_117, hk_117⟩, List.forall_mem_cons.mpr ⟨⟨dk_118, hk_118⟩, List.forall_mem_cons.mpr ⟨⟨dk_119, hk_119⟩, fun _ h => absurd h List.not_mem_nil⟩⟩⟩⟩⟩⟩⟩⟩⟩⟩⟩⟩⟩⟩⟩⟩⟩⟩⟩⟩⟩⟩⟩⟩⟩⟩⟩⟩⟩⟩⟩⟩⟩⟩⟩⟩⟩⟩⟩⟩
def av_ms_3 : List av_Mr := [ms_120, ms_121, ms_122, ms_123, ms_124, ms_125, ms_126, ms_127, ms_128, ms_129, ms_130, ms_131, ms_132, ms_133, ms_134, ms_135, ms_136, ms_137, ms_138, ms_139, ms_140, ms_141, ms_142, ms_143, ms_144, ms_145, ms_146, ms_147, ms_148, ms_149, ms_150, ms_151, ms_152, ms_153, ms_154, ms_155, ms_156, ms_157, ms_158, ms_159]
set_option maxRecDepth 100000 in
set_option maxHeartbeats 2000000 in
theorem av_ms_3_ok : ∀ r ∈ av_ms_3, av_dok av_TT r ∧ av_hok r := List.forall_mem_cons.mpr ⟨⟨dk_120, hk_120⟩, List.forall_mem_cons.mpr ⟨⟨dk_121, hk_121⟩, List.forall_mem_cons.mpr ⟨⟨dk_122, hk_122⟩, List.forall_mem_cons.mpr ⟨⟨dk_123, hk_123⟩, List.forall_mem_cons.mpr ⟨⟨dk_124, hk_124⟩, List.forall_mem_cons.mpr ⟨⟨dk_125, hk_125⟩, List.forall_mem_cons.mpr ⟨⟨dk_126, hk_126⟩, List.forall_mem_cons.mpr ⟨⟨dk_127, hk_127⟩, List.forall_mem_cons.mpr ⟨⟨dk_128, hk_128⟩, List.forall_mem_cons.mpr ⟨⟨dk_129, hk_129⟩, List.forall_mem_cons.mpr ⟨⟨dk_130, hk_130⟩, List.forall_mem_cons.mpr ⟨⟨dk_131, hk_131⟩, List.forall_mem_cons.mpr ⟨⟨dk_132, hk_132⟩, List.forall_mem_cons.mpr ⟨⟨dk_133, hk_133⟩, List.forall_mem_cons.mpr ⟨⟨dk_134, hk_134⟩, List.forall_mem_cons.mpr ⟨⟨dk_135, hk_135⟩, List.forall_mem_cons.mpr ⟨⟨dk_136, hk_136⟩, List.forall_mem_cons.mpr ⟨⟨dk_137, hk_137⟩, List.forall_mem_cons.mpr ⟨⟨dk_138, hk_138⟩, List.forall_mem_cons.mpr ⟨⟨dk_139, hk_139⟩, List.forall_mem_cons.mpr ⟨⟨dk_140, hk_140⟩, List.forall_mem_cons.mpr ⟨⟨dk_141, hk_141⟩, List.forall_mem_cons.mpr ⟨⟨dk_142, hk_142⟩, List.forall_mem_cons.mpr ⟨⟨dk_143, hk_143⟩, List.forall_mem_cons.mpr ⟨⟨dk_144, hk_144⟩, List.forall_mem_cons.mpr ⟨⟨dk_145, hk_145⟩, List.forall_mem_cons.mpr ⟨⟨dk_146, hk_146⟩, List.forall_mem_cons.mpr ⟨⟨dk_147, hk_147⟩, List.forall_mem_cons.mpr ⟨⟨dk_148, hk_148⟩, List.forall_mem_cons.mpr ⟨⟨dk_149, hk_149⟩, List.forall_mem_cons.mpr ⟨⟨dk_150, hk_150⟩, List.forall_mem_cons.mpr ⟨⟨dk_151, hk_151⟩, List.forall_mem_cons.mpr ⟨⟨dk_152, hk_152⟩, List.forall_mem_cons.mpr ⟨⟨dk_153, hk_153⟩, List.forall_mem_cons.mpr ⟨⟨dk_154, hk_154⟩, List.forall_mem_cons.mpr ⟨⟨dk_155, hk_155⟩, List.forall_mem_cons.mpr ⟨⟨dk_156, hk_156⟩, List.forall_mem_cons.mpr ⟨⟨dk_157, hk_157⟩, List.forall_mem_cons.mpr ⟨⟨dk_158, hk_158⟩, List.forall_mem_cons.mpr ⟨⟨dk_159, hk_159⟩, fun _ h => absurd h List.not_mem_nil⟩⟩⟩⟩⟩⟩⟩⟩⟩⟩⟩⟩⟩⟩⟩⟩⟩⟩⟩⟩⟩⟩⟩⟩⟩⟩⟩⟩⟩⟩⟩⟩⟩⟩⟩⟩⟩⟩⟩⟩
def av_ms_4 : List av_Mr := [ms_160, ms_161, ms_162, ms_163, ms_164, ms_165, ms_166, ms_167, ms_168, ms_169, ms_170, ms_171, ms_172, ms_173, ms_174, ms_175, ms_176, ms_177, ms_178, ms_179, ms_180, ms_181, ms_182, ms_183, ms_184, ms_185, ms_186, ms_187, ms_188, ms_189, ms_190, ms_191, ms_192, ms_193, ms_194, ms_195, ms_196, ms_197, ms_198, ms_199]
set_option maxRecDepth 100000 in
set_option maxHeartbeats 2000000 in
theorem av_ms_4_ok : ∀ r ∈ av_ms_4, av_dok av_TT r ∧ av_hok r := List.forall_mem_cons.mpr ⟨⟨dk_160, hk_160⟩, List.forall_mem_cons.mpr ⟨⟨dk_161, hk_161⟩, List.forall_mem_cons.mpr ⟨⟨dk_162, hk_162⟩, List.forall_mem_cons.mpr ⟨⟨dk_163, hk_163⟩, List.forall_mem_cons.mpr ⟨⟨dk_164, hk_164⟩, List.forall_mem_cons.mpr ⟨⟨dk_165, hk_165⟩, List.forall_mem_cons.mpr ⟨⟨dk_166, hk_166⟩, List.forall_mem_cons.mpr ⟨⟨dk_167, hk_167⟩, List.forall_mem_cons.mpr ⟨⟨dk_168, hk_168⟩, List.forall_mem_cons.mpr ⟨⟨dk_169, hk_169⟩, List.forall_mem_cons.mpr ⟨⟨dk_170, hk_170⟩, List.forall_mem_cons.mpr ⟨⟨dk_171, hk_171⟩, List.forall_mem_cons.mpr ⟨⟨dk_172, hk_172⟩, List.forall_mem_cons.mpr ⟨⟨dk_173, hk_173⟩, List.forall_mem_cons.mpr ⟨⟨dk_174, hk_174⟩, List.forall_mem_cons.mpr ⟨⟨dk_175, hk_175⟩, List.forall_mem_cons.mpr ⟨⟨dk_176, hk_176⟩, List.forall_mem_cons.mpr ⟨⟨dk_177, hk_177⟩, List.forall_mem_cons.mpr ⟨⟨dk_178, hk_178⟩, List.forall_mem_cons.mpr ⟨⟨dk_179, hk_179⟩, List.forall_mem_cons.mpr ⟨⟨dk_180, hk_180⟩, List.forall_mem_cons.mpr ⟨⟨dk_181, hk_181⟩, List.forall_mem_cons.mpr ⟨⟨dk_182, hk_182⟩, List.forall_mem_cons.mpr ⟨⟨dk_183, hk_183⟩, List.forall_mem_cons.mpr ⟨⟨dk_184, hk_184⟩, List.forall_mem_cons.mpr ⟨⟨dk_185, hk_185⟩, List.forall_mem_cons.mpr ⟨⟨dk_186, hk_186⟩, List.forall_mem_cons.mpr ⟨⟨dk_187, hk_187⟩, List.forall_mem_cons.mpr ⟨⟨dk_188, hk_188⟩, List.forall_mem_cons.mpr ⟨⟨dk_189, hk_189⟩, List.forall_mem_cons.mpr ⟨⟨dk_190, hk_190⟩, List.forall_mem_cons.mpr ⟨⟨dk_191, hk_191⟩, List.forall_mem_cons.mpr ⟨⟨dk_192, hk_192⟩, List.forall_mem_cons.mpr ⟨⟨dk_193, hk_193⟩, List.forall_mem_cons.mpr ⟨⟨dk_194, hk_194⟩, List.forall_mem_cons.mpr ⟨⟨dk_195, hk_195⟩, List.forall_mem_cons.mpr ⟨⟨dk_196, hk_196⟩, List.forall_mem_cons.mpr ⟨⟨dk_197, hk_197⟩, List.forall_mem_cons.mpr ⟨⟨dk_198, hk_198⟩, List.forall_mem_cons.mpr ⟨⟨dk_199, hk_199⟩, fun _ h => absurd h List.not_mem_nil⟩⟩⟩⟩⟩⟩⟩⟩⟩⟩⟩⟩⟩⟩⟩⟩⟩⟩⟩⟩⟩⟩⟩⟩⟩⟩⟩⟩⟩⟩⟩⟩⟩⟩⟩⟩⟩⟩⟩⟩
def av_ms_5 : List av_Mr := [ms_200, ms_201, ms_202, ms_203, ms_204, ms_205, ms_206, ms_207, ms_208, ms_209, ms_210, ms_211, ms_212, ms_213, ms_214, ms_215, ms_216, ms_217, ms_218, ms_219, ms_220, ms_221, ms_222]
set_option maxRecDepth 100000 in
set_option maxHeartbeats 2000000 in
theorem av_ms_5_ok : ∀ r ∈ av_ms_5, av_dok av_TT r ∧ av_hok r := List.forall_mem_cons.mpr ⟨⟨dk_200, hk_200⟩, List.forall_mem_cons.mpr ⟨⟨dk_201, hk_201⟩, List.forall_mem_cons.mpr ⟨⟨dk_202, hk_202⟩, List.forall_mem_cons.mpr ⟨⟨dk_203, hk_203⟩, List.forall_mem_cons.mpr ⟨⟨dk_204, hk_204⟩, List.forall_mem_cons.mpr ⟨⟨dk_205, hk_205⟩, List.forall_mem_cons.mpr ⟨⟨dk_206, hk_206⟩, List.forall_mem_cons.mpr ⟨⟨dk_207, hk_207⟩, List.forall_mem_cons.mpr ⟨⟨dk_208, hk_208⟩, List.forall_mem_cons.mpr ⟨⟨dk_209, hk_209⟩, List.forall_mem_cons.mpr ⟨⟨dk_210, hk_210⟩, List.forall_mem_cons.mpr ⟨⟨dk_211, hk_211⟩, List.forall_mem_cons.mpr ⟨⟨dk_212, hk_212⟩, List.forall_mem_cons.mpr ⟨⟨dk_213, hk_213⟩, List.forall_mem_cons.mpr ⟨⟨dk_214, hk_214⟩, List.forall_mem_cons.mpr ⟨⟨dk_215, hk_215⟩, List.forall_mem_cons.mpr ⟨⟨dk_216, hk_216⟩, List.forall_mem_cons.mpr ⟨⟨dk_217, hk_217⟩, List.forall_mem_cons.mpr ⟨⟨dk_218, hk_218⟩, List.forall_mem_cons.mpr ⟨⟨dk_219, hk_219⟩, List.forall_mem_cons.mpr ⟨⟨dk_220, hk_220⟩, List.forall_mem_cons.mpr ⟨⟨dk_221, hk_221⟩, List.forall_mem_cons.mpr ⟨⟨dk_222, hk_222⟩, fun _ h => absurd h List.not_mem_nil⟩⟩⟩⟩⟩⟩⟩⟩⟩⟩⟩⟩⟩⟩⟩⟩⟩⟩⟩⟩⟩⟩⟩
set_option maxRecDepth 100000 in
set_option maxHeartbeats 2000000 in
theorem av_ms_eq : av_ms = av_ms_0 ++ av_ms_1 ++ av_ms_2 ++ av_ms_3 ++ av_ms_4 ++ av_ms_5 := rfl
theorem av_ms_ok : ∀ r ∈ av_ms, av_dok av_TT r ∧ av_hok r := by
  rw [av_ms_eq]
  exact List.forall_mem_append.mpr ⟨List.forall_mem_append.mpr ⟨List.forall_mem_append.mpr ⟨List.forall_mem_append.mpr ⟨List.forall_mem_append.mpr ⟨av_ms_0_ok, av_ms_1_ok⟩, av_ms_2_ok⟩, av_ms_3_ok⟩, av_ms_4_ok⟩, av_ms_5_ok⟩
theorem av_good : av_Good av_TT := fun mi r h => av_ms_ok r (List.mem_of_getElem? h)
end
section
/-! THE CLAIM OUT OF ONE WALK OF THE LAW'S BODY. Your part is whole_start (and what it stands on); all else here is the same for every law, but numbers. -/
def R_law : String := "CrossingWordsLaw"
def lw_P (b : Addr) (xs : List Int32) (args : Array Value) (s : State) : Prop := args = #[.ref b] ∧ s.IntsAt b xs ∧ xs.length ≤ 6 ∧ (Jvm.Cond.and given_1 narrow_1).before args s = true
def lw_Q (_ : Array Value) (s : State) (o : Outcome) (t : State) : Prop := o = .returned (some (.int 1)) ∧ Framed s o t [] 600000 7302250
def lw_Z (below : List Frame) (a : Array Value) (s : State) : State → Prop := fun t => ∃ o, t.status = .running ∧ Ended t below o ∧ lw_Q a s o t
/-- the law's own end, with 1 on the stack, nothing written that was there before, its room as the claim has it -/
theorem lw_ret {p : Program} {l : Launch} {e : Env} {s : State} {m : MethodId} {below : List Frame} {meth : Method} {c : Code} {b : Nat} (hx : p.tables.exec = Jvm.exec) (hb : c.code = code) (hr : meth.sig.returnType = ret) (hlocks : meth.locks = false) {pc : Nat} {H : Heap} {ls : Array Slot} (hdg : decode code pc = .ok (.ireturn, 1)) : W p l e room_1 s m #[Value.ref b] below meth c H [] 600000 7302250 (lw_Z below #[Value.ref b] s) (F0 m pc ls [.int 1]) := by
  intro T hT X
  obtain ⟨fs, hret, hrun, hended, hW, hframe⟩ := X.leave (v := some (.int 1)) (hlocks := hlocks) (fun h => by rw [hr] at h; cases h)
  have hmeth' : T.vm.method? m = some meth := X.method'
  refine ⟨T.setFrames fs, ?_, .returned (some (.int 1)), hrun, hended, rfl, ⟨_, rfl⟩, hW, hframe⟩
  jvm_step X.here [X.here.top, hx, hb, hdg, hmeth', hr, ret, narrow_b1]
  (try refine ⟨rfl, ?_⟩); (try refine ⟨rfl, ?_⟩)
  first | (intro acts; rw [hret _ acts rfl rfl rfl]) | rw [hret _ _ rfl rfl rfl]
  exact Steps.refl _
/-- what holds at the law's entry: the machine, the code, the tables' words (any of lw_tbl by 'hts w (by decide +kernel)'), the script of L ints xs at the cell b, what the Statement gives of the start (any of its parts by flat_of_before) -/
def lw_At (p : Program) (s : State) (m : MethodId) (meth : Method) (c : Code) (b L : Nat) (xs : Nat → Int32) : Prop :=
  p.tables.exec = Jvm.exec ∧ c.code = code ∧ meth.sig.returnType = ret ∧ c.maxLocals = 4 ∧ s.vm.findClass R_law = some m.cls ∧ (∀ w ∈ lw_tbl, w.before #[Value.ref b] s = true) ∧ va_X b L xs s s.heap ∧ b < s.heap.size ∧ meth.locks = false ∧ (Jvm.Cond.and given_1 narrow_1).before #[Value.ref b] s = true

def av_tm : Nat → Term := fun k => match k with
  | 0 => .string "CrossingWords$CaseReader" 66
  | 1 => .string "CrossingWords$CaseReader" 72
  | 2 => .string "CrossingWords$CaseReader" 123
  | 3 => .string "CrossingWords$CaseReader" 116
  | 4 => .string "CrossingWords$CaseReader" 121
  | 5 => .string "CrossingWords$CaseReader" 84
  | 6 => .string "CrossingWords$CaseReader" 125
  | 7 => .string "CrossingWords$CaseReader" 127
  | 8 => .string "CrossingWords$CaseReader" 143
  | 9 => .string "CrossingWords$CaseReader" 137
  | 10 => .string "CrossingWords$CaseReader" 139
  | 11 => .string "CrossingWords$CaseReader" 141
  | 12 => .string "CrossingWords$LawReader" 41
  | 13 => .string "CrossingWords$LawReader" 69
  | 14 => .string "CrossingWords$LawReader" 50
  | 15 => .string "CrossingWords$LawReader" 52
  | 16 => .string "CrossingWords$LawReader" 58
  | 17 => .string "CrossingWords$LawReader" 60
  | 18 => .string "CrossingWords$LawReader" 62
  | _ => .string "CrossingWords$LawReader" 64
def av_tx : Nat → String := fun k => match k with
  | 0 => "offer ask yes no back deed send"
  | 1 => "a b c"
  | 2 => "price much day port court"
  | 3 => "hold"
  | 4 => "given"
  | 5 => "but"
  | 6 => "post wire mouth deed"
  | 7 => "at"
  | 8 => "to"
  | 9 => "after"
  | 10 => "read"
  | 11 => "lost"
  | 12 => "yes offer back no hold lapse silence but form deed risk"
  | 13 => "post wire mouth all"
  | 14 => "sent come read"
  | 15 => "free binds"
  | 16 => "no small"
  | 17 => "first last none"
  | 18 => "none yes"
  | _ => "bargain sent come"
/-- the parts of what the Statement gives of the start -/
def av_fl : List Cond := flatC (Jvm.Cond.and given_1 narrow_1)
theorem av_fl_of {args : Array Value} {s : State} (h : (Jvm.Cond.and given_1 narrow_1).before args s = true) : ∀ w ∈ av_fl, w.before args s = true := flat_of_before _ h
set_option maxRecDepth 100000 in
set_option maxHeartbeats 4000000 in
theorem av_g_ex : ∀ k, k < 20 → Cond.exactly (av_tm k) "java/lang/String" ∈ av_fl := by decide +kernel
set_option maxRecDepth 100000 in
set_option maxHeartbeats 4000000 in
theorem av_g_co : ∀ k, k < 20 → Cond.eq (.field (av_tm k) "java/lang/String" "coder" "B") (.int 0) ∈ av_fl := by decide +kernel
set_option maxRecDepth 100000 in
set_option maxHeartbeats 4000000 in
theorem av_g_ar : ∀ k, k < 20 → Cond.arrayOf (.field (av_tm k) "java/lang/String" "value" "[B") .byte ∈ av_fl := by decide +kernel
set_option maxRecDepth 100000 in
set_option maxHeartbeats 4000000 in
theorem av_g_le : ∀ k, k < 20 → Cond.eq (.length (.field (av_tm k) "java/lang/String" "value" "[B")) (.int (Int32.ofNat (av_lit k).length)) ∈ av_fl := by decide +kernel
set_option maxRecDepth 100000 in
set_option maxHeartbeats 4000000 in
theorem av_g_el0 : (List.range 31).map (fun j => Cond.eq (.elem (.field (av_tm 0) "java/lang/String" "value" "[B") (.int (Int32.ofNat j))) (.int (Int32.ofInt ((av_lit 0).getD j 0)))) = (av_fl.drop 48).take 31 := by decide +kernel
set_option maxRecDepth 100000 in
set_option maxHeartbeats 4000000 in
theorem av_g_el1 : (List.range 5).map (fun j => Cond.eq (.elem (.field (av_tm 1) "java/lang/String" "value" "[B") (.int (Int32.ofNat j))) (.int (Int32.ofInt ((av_lit 1).getD j 0)))) = (av_fl.drop 83).take 5 := by decide +kernel
set_option maxRecDepth 100000 in
set_option maxHeartbeats 4000000 in
theorem av_g_el2 : (List.range 25).map (fun j => Cond.eq (.elem (.field (av_tm 2) "java/lang/String" "value" "[B") (.int (Int32.ofNat j))) (.int (Int32.ofInt ((av_lit 2).getD j 0)))) = (av_fl.drop 93).take 25 := by decide +kernel
set_option maxRecDepth 100000 in
set_option maxHeartbeats 4000000 in
theorem av_g_el3 : (List.range 4).map (fun j => Cond.eq (.elem (.field (av_tm 3) "java/lang/String" "value" "[B") (.int (Int32.ofNat j))) (.int (Int32.ofInt ((av_lit 3).getD j 0)))) = (av_fl.drop 124).take 4 := by decide +kernel
set_option maxRecDepth 100000 in
set_option maxHeartbeats 4000000 in
theorem av_g_el4 : (List.range 5).map (fun j => Cond.eq (.elem (.field (av_tm 4) "java/lang/String" "value" "[B") (.int (Int32.ofNat j))) (.int (Int32.ofInt ((av_lit 4).getD j 0)))) = (av_fl.drop 135).take 5 := by decide +kernel
set_option maxRecDepth 100000 in
set_option maxHeartbeats 4000000 in
theorem av_g_el5 : (List.range 3).map (fun j => Cond.eq (.elem (.field (av_tm 5) "java/lang/String" "value" "[B") (.int (Int32.ofNat j))) (.int (Int32.ofInt ((av_lit 5).getD j 0)))) = (av_fl.drop 148).take 3 := by decide +kernel
set_option maxRecDepth 100000 in
set_option maxHeartbeats 4000000 in
theorem av_g_el6 : (List.range 20).map (fun j => Cond.eq (.elem (.field (av_tm 6) "java/lang/String" "value" "[B") (.int (Int32.ofNat j))) (.int (Int32.ofInt ((av_lit 6).getD j 0)))) = (av_fl.drop 160).take 20 := by decide +kernel
set_option maxRecDepth 100000 in
set_option maxHeartbeats 4000000 in
theorem av_g_el7 : (List.range 2).map (fun j => Cond.eq (.elem (.field (av_tm 7) "java/lang/String" "value" "[B") (.int (Int32.ofNat j))) (.int (Int32.ofInt ((av_lit 7).getD j 0)))) = (av_fl.drop 190).take 2 := by decide +kernel
set_option maxRecDepth 100000 in
set_option maxHeartbeats 4000000 in
theorem av_g_el8 : (List.range 2).map (fun j => Cond.eq (.elem (.field (av_tm 8) "java/lang/String" "value" "[B") (.int (Int32.ofNat j))) (.int (Int32.ofInt ((av_lit 8).getD j 0)))) = (av_fl.drop 203).take 2 := by decide +kernel
set_option maxRecDepth 100000 in
set_option maxHeartbeats 4000000 in
theorem av_g_el9 : (List.range 5).map (fun j => Cond.eq (.elem (.field (av_tm 9) "java/lang/String" "value" "[B") (.int (Int32.ofNat j))) (.int (Int32.ofInt ((av_lit 9).getD j 0)))) = (av_fl.drop 217).take 5 := by decide +kernel
set_option maxRecDepth 100000 in
set_option maxHeartbeats 4000000 in
theorem av_g_el10 : (List.range 4).map (fun j => Cond.eq (.elem (.field (av_tm 10) "java/lang/String" "value" "[B") (.int (Int32.ofNat j))) (.int (Int32.ofInt ((av_lit 10).getD j 0)))) = (av_fl.drop 235).take 4 := by decide +kernel
set_option maxRecDepth 100000 in
set_option maxHeartbeats 4000000 in
theorem av_g_el11 : (List.range 4).map (fun j => Cond.eq (.elem (.field (av_tm 11) "java/lang/String" "value" "[B") (.int (Int32.ofNat j))) (.int (Int32.ofInt ((av_lit 11).getD j 0)))) = (av_fl.drop 253).take 4 := by decide +kernel
set_option maxRecDepth 100000 in
set_option maxHeartbeats 4000000 in
theorem av_g_el12 : (List.range 55).map (fun j => Cond.eq (.elem (.field (av_tm 12) "java/lang/String" "value" "[B") (.int (Int32.ofNat j))) (.int (Int32.ofInt ((av_lit 12).getD j 0)))) = (av_fl.drop 272).take 55 := by decide +kernel
set_option maxRecDepth 100000 in
set_option maxHeartbeats 4000000 in
theorem av_g_el13 : (List.range 19).map (fun j => Cond.eq (.elem (.field (av_tm 13) "java/lang/String" "value" "[B") (.int (Int32.ofNat j))) (.int (Int32.ofInt ((av_lit 13).getD j 0)))) = (av_fl.drop 343).take 19 := by decide +kernel
set_option maxRecDepth 100000 in
set_option maxHeartbeats 4000000 in
theorem av_g_el14 : (List.range 14).map (fun j => Cond.eq (.elem (.field (av_tm 14) "java/lang/String" "value" "[B") (.int (Int32.ofNat j))) (.int (Int32.ofInt ((av_lit 14).getD j 0)))) = (av_fl.drop 379).take 14 := by decide +kernel
set_option maxRecDepth 100000 in
set_option maxHeartbeats 4000000 in
theorem av_g_el15 : (List.range 10).map (fun j => Cond.eq (.elem (.field (av_tm 15) "java/lang/String" "value" "[B") (.int (Int32.ofNat j))) (.int (Int32.ofInt ((av_lit 15).getD j 0)))) = (av_fl.drop 411).take 10 := by decide +kernel
set_option maxRecDepth 100000 in
set_option maxHeartbeats 4000000 in
theorem av_g_el16 : (List.range 8).map (fun j => Cond.eq (.elem (.field (av_tm 16) "java/lang/String" "value" "[B") (.int (Int32.ofNat j))) (.int (Int32.ofInt ((av_lit 16).getD j 0)))) = (av_fl.drop 440).take 8 := by decide +kernel
set_option maxRecDepth 100000 in
set_option maxHeartbeats 4000000 in
theorem av_g_el17 : (List.range 15).map (fun j => Cond.eq (.elem (.field (av_tm 17) "java/lang/String" "value" "[B") (.int (Int32.ofNat j))) (.int (Int32.ofInt ((av_lit 17).getD j 0)))) = (av_fl.drop 468).take 15 := by decide +kernel
set_option maxRecDepth 100000 in
set_option maxHeartbeats 4000000 in
theorem av_g_el18 : (List.range 8).map (fun j => Cond.eq (.elem (.field (av_tm 18) "java/lang/String" "value" "[B") (.int (Int32.ofNat j))) (.int (Int32.ofInt ((av_lit 18).getD j 0)))) = (av_fl.drop 504).take 8 := by decide +kernel
set_option maxRecDepth 100000 in
set_option maxHeartbeats 4000000 in
theorem av_g_el19 : (List.range 17).map (fun j => Cond.eq (.elem (.field (av_tm 19) "java/lang/String" "value" "[B") (.int (Int32.ofNat j))) (.int (Int32.ofInt ((av_lit 19).getD j 0)))) = (av_fl.drop 534).take 17 := by decide +kernel
theorem av_g_elm {n B k : Nat} (h : (List.range n).map (fun j => Cond.eq (.elem (.field (av_tm k) "java/lang/String" "value" "[B") (.int (Int32.ofNat j))) (.int (Int32.ofInt ((av_lit k).getD j 0)))) = (av_fl.drop B).take n) {j : Nat} (hj : j < n) : Cond.eq (.elem (.field (av_tm k) "java/lang/String" "value" "[B") (.int (Int32.ofNat j))) (.int (Int32.ofInt ((av_lit k).getD j 0))) ∈ av_fl := by
  have hm : Cond.eq (.elem (.field (av_tm k) "java/lang/String" "value" "[B") (.int (Int32.ofNat j))) (.int (Int32.ofInt ((av_lit k).getD j 0))) ∈ (av_fl.drop B).take n := by
    rw [← h]
    exact List.mem_map.mpr ⟨j, List.mem_range.mpr hj, rfl⟩
  exact List.mem_of_mem_drop (List.mem_of_mem_take hm)
theorem av_g_el : ∀ k, k < 20 → ∀ j, j < (av_lit k).length → Cond.eq (.elem (.field (av_tm k) "java/lang/String" "value" "[B") (.int (Int32.ofNat j))) (.int (Int32.ofInt ((av_lit k).getD j 0))) ∈ av_fl := fun k hk j hj => match k, hk, hj with
  | 0, _, hj => av_g_elm av_g_el0 hj
  | 1, _, hj => av_g_elm av_g_el1 hj
  | 2, _, hj => av_g_elm av_g_el2 hj
  | 3, _, hj => av_g_elm av_g_el3 hj
  | 4, _, hj => av_g_elm av_g_el4 hj
  | 5, _, hj => av_g_elm av_g_el5 hj
  | 6, _, hj => av_g_elm av_g_el6 hj
  | 7, _, hj => av_g_elm av_g_el7 hj
  | 8, _, hj => av_g_elm av_g_el8 hj
  | 9, _, hj => av_g_elm av_g_el9 hj
  | 10, _, hj => av_g_elm av_g_el10 hj
  | 11, _, hj => av_g_elm av_g_el11 hj
  | 12, _, hj => av_g_elm av_g_el12 hj
  | 13, _, hj => av_g_elm av_g_el13 hj
  | 14, _, hj => av_g_elm av_g_el14 hj
  | 15, _, hj => av_g_elm av_g_el15 hj
  | 16, _, hj => av_g_elm av_g_el16 hj
  | 17, _, hj => av_g_elm av_g_el17 hj
  | 18, _, hj => av_g_elm av_g_el18 hj
  | 19, _, hj => av_g_elm av_g_el19 hj
  | k + 20, h, _ => absurd h (by omega)
set_option maxRecDepth 100000 in
set_option maxHeartbeats 4000000 in
theorem av_g_pe : ∀ j, j < 14 → Cond.eq (.elem (.static "CrossingWords" "PLAIN_LAW" "[I") (.int (Int32.ofNat j))) (.int (Int32.ofInt (av_plain j))) ∈ av_fl := by decide +kernel
set_option maxRecDepth 100000 in
set_option maxHeartbeats 4000000 in
theorem av_g_sr0 : Cond.stringRef "CrossingWords$CaseReader" 66 "offer ask yes no back deed send" ∈ lw_tbl := (av_mem (i := 365) rfl)
set_option maxRecDepth 100000 in
set_option maxHeartbeats 4000000 in
theorem av_g_sr1 : Cond.stringRef "CrossingWords$CaseReader" 72 "a b c" ∈ lw_tbl := (av_mem (i := 423) rfl)
set_option maxRecDepth 100000 in
set_option maxHeartbeats 4000000 in
theorem av_g_sr2 : Cond.stringRef "CrossingWords$CaseReader" 123 "price much day port court" ∈ lw_tbl := (av_mem (i := 450) rfl)
set_option maxRecDepth 100000 in
set_option maxHeartbeats 4000000 in
theorem av_g_sr3 : Cond.stringRef "CrossingWords$CaseReader" 116 "hold" ∈ lw_tbl := (av_mem (i := 456) rfl)
set_option maxRecDepth 100000 in
set_option maxHeartbeats 4000000 in
theorem av_g_sr4 : Cond.stringRef "CrossingWords$CaseReader" 121 "given" ∈ lw_tbl := (av_mem (i := 461) rfl)
set_option maxRecDepth 100000 in
set_option maxHeartbeats 4000000 in
theorem av_g_sr5 : Cond.stringRef "CrossingWords$CaseReader" 84 "but" ∈ lw_tbl := (av_mem (i := 462) rfl)
set_option maxRecDepth 100000 in
set_option maxHeartbeats 4000000 in
theorem av_g_sr6 : Cond.stringRef "CrossingWords$CaseReader" 125 "post wire mouth deed" ∈ lw_tbl := (av_mem (i := 471) rfl)
set_option maxRecDepth 100000 in
set_option maxHeartbeats 4000000 in
theorem av_g_sr7 : Cond.stringRef "CrossingWords$CaseReader" 127 "at" ∈ lw_tbl := (av_mem (i := 472) rfl)
set_option maxRecDepth 100000 in
set_option maxHeartbeats 4000000 in
theorem av_g_sr8 : Cond.stringRef "CrossingWords$CaseReader" 143 "to" ∈ lw_tbl := (av_mem (i := 481) rfl)
set_option maxRecDepth 100000 in
set_option maxHeartbeats 4000000 in
theorem av_g_sr9 : Cond.stringRef "CrossingWords$CaseReader" 137 "after" ∈ lw_tbl := (av_mem (i := 482) rfl)
set_option maxRecDepth 100000 in
set_option maxHeartbeats 4000000 in
theorem av_g_sr10 : Cond.stringRef "CrossingWords$CaseReader" 139 "read" ∈ lw_tbl := (av_mem (i := 483) rfl)
set_option maxRecDepth 100000 in
set_option maxHeartbeats 4000000 in
theorem av_g_sr11 : Cond.stringRef "CrossingWords$CaseReader" 141 "lost" ∈ lw_tbl := (av_mem (i := 484) rfl)
set_option maxRecDepth 100000 in
set_option maxHeartbeats 4000000 in
theorem av_g_sr12 : Cond.stringRef "CrossingWords$LawReader" 41 "yes offer back no hold lapse silence but form deed risk" ∈ lw_tbl := (av_mem (i := 529) rfl)
set_option maxRecDepth 100000 in
set_option maxHeartbeats 4000000 in
theorem av_g_sr13 : Cond.stringRef "CrossingWords$LawReader" 69 "post wire mouth all" ∈ lw_tbl := (av_mem (i := 535) rfl)
set_option maxRecDepth 100000 in
set_option maxHeartbeats 4000000 in
theorem av_g_sr14 : Cond.stringRef "CrossingWords$LawReader" 50 "sent come read" ∈ lw_tbl := (av_mem (i := 536) rfl)
set_option maxRecDepth 100000 in
set_option maxHeartbeats 4000000 in
theorem av_g_sr15 : Cond.stringRef "CrossingWords$LawReader" 52 "free binds" ∈ lw_tbl := (av_mem (i := 537) rfl)
set_option maxRecDepth 100000 in
set_option maxHeartbeats 4000000 in
theorem av_g_sr16 : Cond.stringRef "CrossingWords$LawReader" 58 "no small" ∈ lw_tbl := (av_mem (i := 539) rfl)
set_option maxRecDepth 100000 in
set_option maxHeartbeats 4000000 in
theorem av_g_sr17 : Cond.stringRef "CrossingWords$LawReader" 60 "first last none" ∈ lw_tbl := (av_mem (i := 540) rfl)
set_option maxRecDepth 100000 in
set_option maxHeartbeats 4000000 in
theorem av_g_sr18 : Cond.stringRef "CrossingWords$LawReader" 62 "none yes" ∈ lw_tbl := (av_mem (i := 541) rfl)
set_option maxRecDepth 100000 in
set_option maxHeartbeats 4000000 in
theorem av_g_sr19 : Cond.stringRef "CrossingWords$LawReader" 64 "bargain sent come" ∈ lw_tbl := (av_mem (i := 542) rfl)
set_option maxRecDepth 100000 in
set_option maxHeartbeats 4000000 in
theorem av_kn0 {a0 : Array Value} {s0 : State} (hts : ∀ w ∈ lw_tbl, w.before a0 s0 = true) : ∃ D : va_G, ∀ ci, ci < 9 → u_Kn s0 (av_cn ci) (av_T ci) (av_N ci) (D.1 ci) (D.2 ci) := by
  have h : ∀ ci : Nat, ∃ q : ClassId × (Nat → Nat), ci < 9 → u_Kn s0 (av_cn ci) (av_T ci) (av_N ci) q.1 q.2 := by
    intro ci
    by_cases hc : ci < 9
    · obtain ⟨c, i, hk⟩ := u_known (C := av_cn ci) (T := av_T ci) (N := av_N ci) (n := av_N ci) hts (av_lay ci hc) (hts _ (av_inst ci hc).1)
      exact ⟨(c, i), fun _ => hk⟩
    · exact ⟨(0, fun _ => 0), fun q => absurd q hc⟩
  obtain ⟨f, hf⟩ := Classical.axiomOfChoice h
  exact ⟨(fun ci => (f ci).1, fun ci => (f ci).2), hf⟩
theorem av_arrOf {s0 : State} {c : ClassId} {k : Class} {comp : ClassId} {ty : FieldType} (h2 : s0.vm.classes[c]? = some k) (h3 : k.kind = .array comp ty) : ArrOfT s0 c ty := fun n z => ⟨fun k h => (by cases h), k, h2, comp, h3⟩
set_option maxRecDepth 100000 in
set_option maxHeartbeats 4000000 in
theorem av_ka0 {a0 : Array Value} {s0 : State} (hts : ∀ w ∈ lw_tbl, w.before a0 s0 = true) : ∃ TY : Nat → ClassId, ∀ k ∈ [20, 21, 22, 30, 31, 32], ArrOfT s0 (TY k) (av_ft k) ∧ va_RA s0 (TY k) (av_ft k) := by
  have prim : ∀ ty : FieldType, (∀ C, ty ≠ .object C) → Cond.arrayClass ty ∈ lw_tbl → ∃ c, ArrOfT s0 c ty ∧ va_RA s0 c ty := by
    intro ty hn hw
    obtain ⟨c, k, comp, h1, h2, h3⟩ := Cond.arrayClass_spec (hts _ hw)
    refine ⟨c, av_arrOf h2 h3, ?_⟩
    cases ty <;> first | exact h1 | exact absurd rfl (hn _)
  have obj : ∀ C : String, Cond.arrayOver (.object C) ∈ lw_tbl → ∃ c, ArrOfT s0 c (.object C) ∧ va_RA s0 c (.object C) := by
    intro C hw
    obtain ⟨comp, c, k, h1, h2, h3, h4, h5⟩ := Cond.arrayOver_spec (hts _ hw)
    exact ⟨c, av_arrOf h3 h4, k, comp, h3, h4, h1, h5⟩
  obtain ⟨c20, p20⟩ := prim .int (fun _ h => by cases h) av_f_acI
  obtain ⟨c21, p21⟩ := prim .byte (fun _ h => by cases h) av_f_ac_byte
  obtain ⟨c22, p22⟩ := prim .boolean (fun _ h => by cases h) av_f_ac_boolean
  obtain ⟨c30, p30⟩ := obj RX1 (av_mem (i := 66) rfl)
  obtain ⟨c31, p31⟩ := obj RX5 (av_mem (i := 96) rfl)
  obtain ⟨comp, c32, k, h1, h2, h3, h4, h5⟩ := arrayOverA_spec (hts _ av_f_ovA)
  refine ⟨fun k => if k = 20 then c20 else if k = 21 then c21 else if k = 22 then c22 else if k = 30 then c30 else if k = 31 then c31 else c32, fun k hk => ?_⟩
  simp only [List.mem_cons, List.not_mem_nil, or_false] at hk
  rcases hk with rfl | rfl | rfl | rfl | rfl | rfl
  · exact p20
  · exact p21
  · exact p22
  · exact p30
  · exact p31
  · exact ⟨av_arrOf h3 h4, h5⟩
set_option maxRecDepth 100000 in
set_option maxHeartbeats 4000000 in
theorem av_start {p : Program} {s : State} {m : MethodId} {meth : Method} {c : Code} {b L : Nat} {xs : Nat → Int32} (hL : L < 2 ^ 31) (C0 : lw_At p s m meth c b L xs) : ∃ (D : va_G) (TY : Nat → ClassId) (kr ad : Nat → Nat), av_Z #[Value.ref b] s D TY ∧ av_Gl s kr ad (some (L, fun j => (xs j).toInt)) ∧ av_Gl s kr ad none ∧ kr 100 = b := by
  obtain ⟨hx, hb, hr, hml, hown, hts, hX, hbl, hlocks, hgv⟩ := C0
  obtain ⟨D, hD⟩ := av_kn0 hts
  obtain ⟨TY, hTY⟩ := av_ka0 hts
  have hfl := av_fl_of hgv
  have hA : ∀ a : Nat, a < s.heap.size → ¬ (fun q => s.heap.size ≤ q) a := fun a ha q => absurd q (Nat.not_le.mpr ha)
  have h0 : ∀ i : Nat, ∃ q : Nat × Nat, i < 20 → (av_tm i).eval #[Value.ref b] s none [] s = some (.ref q.1) ∧ va_O "java/lang/String" q.1 (fun q => s.heap.size ≤ q) s s.heap ∧ va_OF "java/lang/String" "coder" "B" (.int 0) q.1 (fun q => s.heap.size ≤ q) s s.heap ∧ va_OF "java/lang/String" "value" "[B" (.ref q.2) q.1 (fun q => s.heap.size ≤ q) s s.heap ∧ va_T .byte q.2 (av_lit i).length (fun j => .int (Int32.ofInt ((av_lit i).getD j 0))) (fun q => s.heap.size ≤ q) s s.heap := by
    intro i
    by_cases hi : i < 20
    · obtain ⟨a, c, cA, kA, q1, q2, q3, q4, q5, q6, -⟩ := Cond.exactly_spec (args := #[Value.ref b]) (first := s) (o := none) (s := s) (idx := []) (t := av_tm i) (cls := "java/lang/String") (hfl _ (av_g_ex i hi))
      obtain ⟨t, ht, hT⟩ := va_Tof (f := fun j => .int (Int32.ofInt ((av_lit i).getD j 0))) (A := fun q => s.heap.size ≤ q) (av_ascii i hi).1 (hfl _ (av_g_ar i hi)) (va_eqt (hfl _ (av_g_le i hi))) (fun j hj => va_eqt (hfl _ (av_g_el i hi j hj))) hA
      exact ⟨(a, t), fun _ => ⟨q1, ⟨cA, q3, q5, by rw [q6]; exact q2, hA a (Array.getElem?_eq_some_iff.mp q3).1⟩, vk_OFof q1 (va_eqt (hfl _ (av_g_co i hi))) hA, vk_OFof q1 ht hA, hT⟩⟩
    · exact ⟨(0, 0), fun h => absurd h hi⟩
  obtain ⟨f, hf⟩ := Classical.axiomOfChoice h0
  obtain ⟨pl, hpl, hplT⟩ := va_Tof (tm := .static "CrossingWords" "PLAIN_LAW" "[I") (ty := .int) (N := 14) (f := fun j => .int (Int32.ofInt (av_plain j))) (A := fun q => s.heap.size ≤ q) (by decide) (hfl _ (by decide +kernel)) (va_eqt (hfl _ (by decide +kernel))) (fun j hj => va_eqt (hfl _ (av_g_pe j hj))) hA
  suffices hG : av_Gl s (fun k => if k < 20 then (f k).1 else if k = 100 then b else pl) (fun k => (f k).2) (some (L, fun j => (xs j).toInt)) from ⟨D, TY, _, _, ⟨hts, hD, hTY⟩, hG, ⟨trivial, hG.2⟩, rfl⟩
  refine ⟨?_, ?_, ?_, ?_⟩
  · refine ⟨?_, hbl, hL⟩
    show va_X b L (fun j => Int32.ofInt ((xs j).toInt)) s s.heap
    simpa only [Int32.ofInt_toInt] using hX
  · exact ⟨va_Zof (hts _ (av_mem (i := 549) rfl)) (hts _ (av_inst 7 (by decide)).2) hpl hA, hplT⟩
  · refine ⟨fun k hk => ?_, va_Zof (hts _ (av_mem (i := 383) rfl)) (hts _ (av_mem (i := 13) rfl)) (va_eqi (hfl _ (by decide +kernel))) hA, va_Zqof (hts _ (av_mem (i := 399) rfl)) (hts _ (av_mem (i := 15) rfl)) (hfl _ (by decide +kernel)) hA⟩
    have := hf k hk
    simp only [if_pos hk]
    exact this.2
  · intro q hq
    have go : ∀ k, k < 20 → ∀ (own idx : Nat) (cn tx : String), av_cn own = cn → av_tm k = .string cn idx → Cond.stringRef cn idx tx ∈ lw_tbl → vk_R (av_cn own) idx tx (if k < 20 then (f k).1 else if k = 100 then b else pl) s := by
      intro k hk own idx cn tx e1 e2 hw
      rw [if_pos hk, e1]
      have h1 := (hf k hk).1
      rw [e2] at h1
      exact vk_R.of (hts _ hw) h1
    simp only [av_strs, List.mem_cons, List.not_mem_nil, or_false] at hq
    rcases hq with rfl | rfl | rfl | rfl | rfl | rfl | rfl | rfl | rfl | rfl | rfl | rfl | rfl | rfl | rfl | rfl | rfl | rfl | rfl | rfl
    · exact go 0 (by decide) _ _ _ _ rfl rfl av_g_sr0
    · exact go 1 (by decide) _ _ _ _ rfl rfl av_g_sr1
    · exact go 2 (by decide) _ _ _ _ rfl rfl av_g_sr2
    · exact go 3 (by decide) _ _ _ _ rfl rfl av_g_sr3
    · exact go 4 (by decide) _ _ _ _ rfl rfl av_g_sr4
    · exact go 5 (by decide) _ _ _ _ rfl rfl av_g_sr5
    · exact go 6 (by decide) _ _ _ _ rfl rfl av_g_sr6
    · exact go 7 (by decide) _ _ _ _ rfl rfl av_g_sr7
    · exact go 8 (by decide) _ _ _ _ rfl rfl av_g_sr8
    · exact go 9 (by decide) _ _ _ _ rfl rfl av_g_sr9
    · exact go 10 (by decide) _ _ _ _ rfl rfl av_g_sr10
    · exact go 11 (by decide) _ _ _ _ rfl rfl av_g_sr11
    · exact go 12 (by decide) _ _ _ _ rfl rfl av_g_sr12
    · exact go 13 (by decide) _ _ _ _ rfl rfl av_g_sr13
    · exact go 14 (by decide) _ _ _ _ rfl rfl av_g_sr14
    · exact go 15 (by decide) _ _ _ _ rfl rfl av_g_sr15
    · exact go 16 (by decide) _ _ _ _ rfl rfl av_g_sr16
    · exact go 17 (by decide) _ _ _ _ rfl rfl av_g_sr17
    · exact go 18 (by decide) _ _ _ _ rfl rfl av_g_sr18
    · exact go 19 (by decide) _ _ _ _ rfl rfl av_g_sr19
/-- the heap at the start: no cell of ours -/
def av_h0 : av_H := (0, 0, fun _ => (99, 0), fun _ _ => 0, fun _ _ => 0, fun _ _ => none, fun _ _ => none, ())
set_option maxRecDepth 100000 in
set_option maxHeartbeats 4000000 in
theorem whole_of {p : Program} {e : Env} {s : State} {m : MethodId} {below : List Frame} {meth : Method} {c : Code} (l : Launch) {b L : Nat} {xs : Nat → Int32} (hL : L < 2 ^ 31) (C0 : lw_At p s m meth c b L xs) (n : Nat) (hf : av_H) (hrun : av_run av_PP (some (L, fun j => (xs j).toInt)) n cd_L 0 (av_ent 4 [.inr (.inr (.inr 100))]) [] av_h0 = some (some (.inl 1), hf)) (hc : hf.1 ≤ 600000) (hs : hf.2.1 ≤ 7302250) :
    W p l e room_1 s m #[Value.ref b] below meth c s.heap [] 0 0 (lw_Z below #[Value.ref b] s) (entryFrame m ([Value.ref b] : List Value).toArray 4) := by
  obtain ⟨D, TY, kr, ad, hZ, hG, hG0, hk⟩ := av_start hL C0
  obtain ⟨hx, hb, hr, hml, hown, hts, hX, hbl, hlocks, hgv⟩ := id C0
  have C : av_Cx p room_1 s m meth c #[Value.ref b] s D TY ms_L.1 ms_L.2.2.2.1 ms_L.2.2.1 (decide (ms_L.2.2.2.2.2.1 = 1)) av_h0 hf :=
    ⟨hx, hb, hml, hown, State.WarmedH.refl s, hZ, (fun h => by cases h), hc, hs⟩
  have hall := av_all (l := l) av_good hZ hG0 n (some (L, fun j => (xs j).toInt)) hG p e room_1 s m #[Value.ref b] below meth c (lw_Z below #[Value.ref b] s) ms_L av_h0 hf av_h0 0 (av_ent 4 [.inr (.inr (.inr 100))]) [] (some (.inl 1)) dk_L C rfl rfl ?_ hrun
  · have hw := hall s.heap [] _ ⟨rfl, fun _ _ => rfl, trivial, fun k hk => absurd hk (Nat.not_lt_zero _)⟩ (fun q hq => by cases hq) (av_entry (z := s.heap.size) (kr := kr) (vs := [.inr (.inr (.inr 100))]) (by decide)) (Nat.le_refl _) (Nat.le_refl _)
    have hev : ([.inr (.inr (.inr 100))] : List av_V).map (av_ev s.heap.size kr) = [Value.ref b] := by
      show [Value.ref (kr 100)] = _
      rw [hk]
    rw [hev] at hw
    rw [lg_entry_eq]
    exact hw
  · intro pc' lv' ins hdg hk' H locs ls hR hl hLr _ _
    have hin : ins = .ireturn := by
      rcases hk' with ⟨_, q, _⟩ | ⟨q, _⟩ | ⟨_, q, e1, _⟩
      · cases q
      · exact q
      · cases e1
    subst hin
    refine W.widen (k := 600000) (n := 7302250) (by show hf.1 - 0 ≤ _; omega) (by show hf.2.1 - 0 ≤ _; omega) ?_
    have := W.forget (locs := []) hl (lw_ret (p := p) (l := l) (e := e) (s := s) (m := m) (below := below) (meth := meth) (c := c) (b := b) hx hb hr hlocks (pc := pc') (H := H) (ls := ls) hdg)
    rw [List.nil_append] at this
    exact this
end
section
/-! RUNS OF THE SMALL MACHINE, BY WHAT IS WANTED BEHIND THEM -/
theorem av_more (P : av_P) : ∀ (n : Nat) (sc : av_Sr) (cd : List (Nat × av_E)) (pc : Nat) (lv : av_L) (st : List av_V) (h : av_H) (q : Option av_V × av_H), av_run P sc n cd pc lv st h = some q → ∀ k, av_run P sc (n + k) cd pc lv st h = some q := by
  intro n
  induction n with
  | zero => intro sc cd pc lv st h q hs; simp [av_run] at hs
  | succ n ih =>
    intro sc cd pc lv st h q hs k
    rw [show n + 1 + k = (n + k) + 1 by omega]
    unfold av_run at hs ⊢
    split at hs
    · cases hs
    · next x hx =>
      split at hs
      · split at hs
        · cases hs
        · exact ih _ _ _ _ _ _ _ hs k
      · exact hs
      · split at hs
        · next M vs r hP hp =>
          split at hs
          · next hl =>
            split at hs
            · cases hs
            · next v h' hc =>
              rw [if_pos hl, ih _ _ _ _ _ _ _ hc k]
              exact ih _ _ _ _ _ _ _ hs k
          · cases hs
        · cases hs
/-- a cell that is something is one that was made -/
def av_Gd (h : av_H) : Prop := ∀ k, (h.2.2.1 k).1 ≠ 99 → k < h.1
theorem av_gd_lib {a pc pc' : Nat} {lv lv' : av_L} {st st' : List av_V} {h h' : av_H} (hg : av_Gd h) (hs : av_lib a pc lv st h = some (pc', lv', st', h')) : av_Gd h' := by
  unfold av_lib at hs
  split at hs
  all_goals (repeat' split at hs)
  all_goals first
    | (cases hs; done)
    | (cases hs; exact hg)
    | (cases hs
       intro k hk
       by_cases e : k = h.1
       · rw [e]; exact Nat.lt_succ_self _
       · simp only [av_newN, av_u1_ne e] at hk
         exact Nat.lt_succ_of_lt (hg k hk))
theorem av_gd_stp {sc : av_Sr} {x : av_E} {pc pc' : Nat} {lv lv' : av_L} {st st' : List av_V} {h h' : av_H} (hg : av_Gd h) (hs : av_stp sc x pc lv st h = some (pc', lv', st', h')) : av_Gd h' := by
  obtain ⟨ins, ln, xa, xb, xc, xk⟩ := x
  have eqv : h' = h → av_Gd h' := fun e => by rw [e]; exact hg
  cases ins <;> simp only [av_stp] at hs
  all_goals first
    | (cases hs; done)
    | exact eqv (av_m_bin hs)
    | exact eqv (av_m_ldi hs)
    | exact eqv (av_m_lda hs)
    | exact eqv (av_m_ldl hs)
    | exact eqv (av_m_sti hs)
    | exact eqv (av_m_sta hs)
    | exact eqv (av_m_iinc hs)
    | exact av_gd_lib hg hs
    | (cases hs; exact hg)
    | skip
  all_goals first
    | unfold av_getf at hs
    | unfold av_putf at hs
    | unfold av_ald at hs
    | unfold av_aald at hs
    | unfold av_iast at hs
    | unfold av_bast at hs
    | unfold av_aast at hs
    | unfold av_alen at hs
    | unfold av_newa at hs
    | unfold av_anew at hs
    | unfold av_mnew at hs
    | skip
  all_goals (repeat' split at hs)
  all_goals first
    | (cases hs; done)
    | (cases hs; exact hg)
    | (cases hs
       intro k hk
       by_cases e : k = h.1
       · rw [e]; exact Nat.lt_succ_self _
       · first
         | (simp only [av_newN, av_u1_ne e] at hk; exact Nat.lt_succ_of_lt (hg k hk))
         | (simp only [av_newR, av_u1_ne e] at hk; exact Nat.lt_succ_of_lt (hg k hk))
         | (simp only [av_newO, av_u1_ne e] at hk; exact Nat.lt_succ_of_lt (hg k hk)))
    | (cases hs
       intro k hk
       simp only [av_newM] at hk ⊢
       by_cases e : k = h.1
       · omega
       · rw [if_neg e] at hk
         split at hk
         · omega
         · have := hg k hk
           omega)
theorem av_gd_run (P : av_P) : ∀ (n : Nat) (sc : av_Sr) (cd : List (Nat × av_E)) (pc : Nat) (lv : av_L) (st : List av_V) (h : av_H) (v : Option av_V) (h' : av_H), av_Gd h → av_run P sc n cd pc lv st h = some (v, h') → av_Gd h' := by
  intro n
  induction n with
  | zero => intro sc cd pc lv st h v h' _ hs; simp [av_run] at hs
  | succ n ih =>
    intro sc cd pc lv st h v h' hg hs
    unfold av_run at hs
    split at hs
    · cases hs
    · next x hx =>
      split at hs
      · split at hs
        · cases hs
        · next pc1 lv1 st1 h1 hs1 => exact ih _ _ _ _ _ _ _ _ (av_gd_stp hg hs1) hs
      · unfold av_ret at hs
        split at hs
        · cases hs; exact hg
        · split at hs
          · cases hs; exact hg
          · cases hs
        · cases hs; exact hg
        · cases hs
      · split at hs
        · split at hs
          · split at hs
            · cases hs
            · next v1 h1 hs1 => exact ih _ _ _ _ _ _ _ _ (ih _ _ _ _ _ _ _ _ hg hs1) hs
          · cases hs
        · cases hs
/-- from here the method comes to its end, with Q -/
def av_wp (sc : av_Sr) (cd : List (Nat × av_E)) (pc : Nat) (lv : av_L) (st : List av_V) (h : av_H) (Q : Option av_V → av_H → Prop) : Prop :=
  av_Gd h → ∃ n v h', av_run av_PP sc n cd pc lv st h = some (v, h') ∧ Q v h'
/-- steps of its own, k of them -/
def av_seq (sc : av_Sr) : Nat → List (Nat × av_E) → av_S → Option av_S
  | 0, _, s => some s
  | n + 1, cd, s => match cd.lookup s.1 with
    | none => none
    | some x => if av_kd x = 0 then (match av_stp sc x s.1 s.2.1 s.2.2.1 s.2.2.2 with
      | none => none
      | some s' => av_seq sc n cd s') else none
theorem av_wp_seq (k : Nat) {sc : av_Sr} {cd : List (Nat × av_E)} {Q : Option av_V → av_H → Prop} : ∀ {pc pc' : Nat} {lv lv' : av_L} {st st' : List av_V} {h h' : av_H}, av_seq sc k cd (pc, lv, st, h) = some (pc', lv', st', h') → av_wp sc cd pc' lv' st' h' Q → av_wp sc cd pc lv st h Q := by
  induction k with
  | zero =>
    intro pc pc' lv lv' st st' h h' hs hw
    simp only [av_seq] at hs
    cases hs
    exact hw
  | succ k ih =>
    intro pc pc' lv lv' st st' h h' hs hw hg
    simp only [av_seq] at hs
    split at hs
    · cases hs
    · next x hx =>
      split at hs
      · next hk =>
        split at hs
        · cases hs
        · next s1 hs1 =>
          obtain ⟨pc1, lv1, st1, h1⟩ := s1
          obtain ⟨n, v, h2, hr, hq⟩ := ih hs hw (av_gd_stp hg hs1)
          refine ⟨n + 1, v, h2, ?_, hq⟩
          unfold av_run
          rw [hx]
          try dsimp only
          rw [hk]
          try dsimp only
          rw [hs1]
          exact hr
      · cases hs
theorem av_wp_ret {sc : av_Sr} {cd : List (Nat × av_E)} {pc : Nat} {lv : av_L} {st : List av_V} {h : av_H} {Q : Option av_V → av_H → Prop} {x : av_E} {v : Option av_V} (hx : cd.lookup pc = some x) (hk : av_kd x = 1) (hr : av_ret x st h = some (v, h)) (hq : Q v h) : av_wp sc cd pc lv st h Q := by
  intro hg
  refine ⟨1, v, h, ?_, hq⟩
  unfold av_run
  rw [hx]
  try dsimp only
  rw [hk]
  exact hr
theorem av_wp_call {sc : av_Sr} {cd : List (Nat × av_E)} {pc : Nat} {lv : av_L} {st : List av_V} {h : av_H} {Q Qc : Option av_V → av_H → Prop} {x : av_E} {vs r : List av_V} {M : Nat × List (Nat × av_E)} (hx : cd.lookup pc = some x) (hk : av_kd x = 2) (hM : av_PP x.2.2.1 = some M) (hp : av_Gd h → av_pop x st h = some (vs, r)) (hl : (av_args vs).length ≤ M.1)
    (hc : av_wp none M.2 0 (av_ent M.1 vs) [] h Qc) (hw : ∀ v h', Qc v h' → av_wp sc cd (pc + 3) lv (v.toList ++ r) h' Q) : av_wp sc cd pc lv st h Q := by
  intro hg
  obtain ⟨n1, v1, h1, hr1, hq1⟩ := hc hg
  obtain ⟨n2, v2, h2, hr2, hq2⟩ := hw v1 h1 hq1 (av_gd_run _ _ _ _ _ _ _ _ _ _ hg hr1)
  refine ⟨n1 + n2 + 1, v2, h2, ?_, hq2⟩
  unfold av_run
  rw [hx]
  try dsimp only
  rw [hk]
  try dsimp only
  rw [hM, hp hg]
  try dsimp only
  rw [if_pos hl, av_more _ _ _ _ _ _ _ _ _ hr1 n2]
  try dsimp only
  rw [Nat.add_comm n1 n2]
  exact av_more _ _ _ _ _ _ _ _ _ hr2 n1
theorem av_wp_mono {sc : av_Sr} {cd : List (Nat × av_E)} {pc : Nat} {lv : av_L} {st : List av_V} {h : av_H} {Q Q' : Option av_V → av_H → Prop} (hw : av_wp sc cd pc lv st h Q) (hq : ∀ v h', Q v h' → Q' v h') : av_wp sc cd pc lv st h Q' := by
  intro hg
  obtain ⟨n, v, h', hr, hQ⟩ := hw hg
  exact ⟨n, v, h', hr, hq v h' hQ⟩
end
