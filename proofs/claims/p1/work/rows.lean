section
-- ===== PART A: goes FIRST, ahead of the names: the tables' words, and 'selects' of the private methods out of them =====
/-- a private method of a class that the tables say can be made, by its rows of tables_1 -/
def lw_okq (q : MethodName × Nat) : Prop := (q.1.cls ≠ "java/lang/invoke/MethodHandle" ∧ q.1.cls ≠ "java/lang/invoke/VarHandle") ∧ Cond.instantiable q.1.cls q.2 ∈ tables_1 ∧ Cond.privateMethod q.1 ∈ tables_1 ∧ Cond.instanceMethod q.1 ∈ tables_1
theorem lw_p0 : lw_okq (⟨"CrossingWords$CaseReader", "readSaying", "(I)V"⟩, 3) := ⟨⟨by decide +kernel, by decide +kernel⟩, List.mem_of_getElem? (i := 98) (by decide +kernel), List.mem_of_getElem? (i := 356) (by decide +kernel), List.mem_of_getElem? (i := 357) (by decide +kernel)⟩
theorem lw_p1 : lw_okq (⟨"CrossingWords$CaseReader", "readOther", "(I)V"⟩, 3) := ⟨⟨by decide +kernel, by decide +kernel⟩, List.mem_of_getElem? (i := 98) (by decide +kernel), List.mem_of_getElem? (i := 425) (by decide +kernel), List.mem_of_getElem? (i := 426) (by decide +kernel)⟩
theorem lw_p2 : lw_okq (⟨"CrossingWords$CaseReader", "readSaid", "(II)V"⟩, 3) := ⟨⟨by decide +kernel, by decide +kernel⟩, List.mem_of_getElem? (i := 98) (by decide +kernel), List.mem_of_getElem? (i := 430) (by decide +kernel), List.mem_of_getElem? (i := 431) (by decide +kernel)⟩
theorem lw_p3 : lw_okq (⟨"CrossingWords$CaseReader", "fits", "(III)Z"⟩, 3) := ⟨⟨by decide +kernel, by decide +kernel⟩, List.mem_of_getElem? (i := 98) (by decide +kernel), List.mem_of_getElem? (i := 438) (by decide +kernel), List.mem_of_getElem? (i := 439) (by decide +kernel)⟩
theorem lw_p4 : lw_okq (⟨"CrossingWords$CaseReader", "readTerms", "(I)V"⟩, 3) := ⟨⟨by decide +kernel, by decide +kernel⟩, List.mem_of_getElem? (i := 98) (by decide +kernel), List.mem_of_getElem? (i := 443) (by decide +kernel), List.mem_of_getElem? (i := 444) (by decide +kernel)⟩
theorem lw_p5 : lw_okq (⟨"CrossingWords$CaseReader", "readWords", "(I)V"⟩, 3) := ⟨⟨by decide +kernel, by decide +kernel⟩, List.mem_of_getElem? (i := 98) (by decide +kernel), List.mem_of_getElem? (i := 447) (by decide +kernel), List.mem_of_getElem? (i := 448) (by decide +kernel)⟩
theorem lw_p6 : lw_okq (⟨"CrossingWords$CaseReader", "readBut", "(I)V"⟩, 3) := ⟨⟨by decide +kernel, by decide +kernel⟩, List.mem_of_getElem? (i := 98) (by decide +kernel), List.mem_of_getElem? (i := 464) (by decide +kernel), List.mem_of_getElem? (i := 465) (by decide +kernel)⟩
theorem lw_p7 : lw_okq (⟨"CrossingWords$CaseReader", "readTimes", "(I)V"⟩, 3) := ⟨⟨by decide +kernel, by decide +kernel⟩, List.mem_of_getElem? (i := 98) (by decide +kernel), List.mem_of_getElem? (i := 468) (by decide +kernel), List.mem_of_getElem? (i := 469) (by decide +kernel)⟩
theorem lw_p8 : lw_okq (⟨"CrossingWords$CaseReader", "readSpan", "(III)V"⟩, 3) := ⟨⟨by decide +kernel, by decide +kernel⟩, List.mem_of_getElem? (i := 98) (by decide +kernel), List.mem_of_getElem? (i := 478) (by decide +kernel), List.mem_of_getElem? (i := 479) (by decide +kernel)⟩
theorem lw_p9 : lw_okq (⟨"CrossingWords", "endReading", "()V"⟩, 9) := ⟨⟨by decide +kernel, by decide +kernel⟩, List.mem_of_getElem? (i := 19) (by decide +kernel), List.mem_of_getElem? (i := 492) (by decide +kernel), List.mem_of_getElem? (i := 493) (by decide +kernel)⟩
theorem lw_p10 : lw_okq (⟨"CrossingWords$LawReader", "readRule", "()V"⟩, 2) := ⟨⟨by decide +kernel, by decide +kernel⟩, List.mem_of_getElem? (i := 114) (by decide +kernel), List.mem_of_getElem? (i := 526) (by decide +kernel), List.mem_of_getElem? (i := 527) (by decide +kernel)⟩
theorem lw_p11 : lw_okq (⟨"CrossingWords$LawReader", "readYes", "()V"⟩, 2) := ⟨⟨by decide +kernel, by decide +kernel⟩, List.mem_of_getElem? (i := 114) (by decide +kernel), List.mem_of_getElem? (i := 532) (by decide +kernel), List.mem_of_getElem? (i := 533) (by decide +kernel)⟩
theorem lw_p12 : lw_okq (⟨"CrossingWords$Bench", "setHours", "(II)V"⟩, 16) := ⟨⟨by decide +kernel, by decide +kernel⟩, List.mem_of_getElem? (i := 184) (by decide +kernel), List.mem_of_getElem? (i := 611) (by decide +kernel), List.mem_of_getElem? (i := 612) (by decide +kernel)⟩
theorem lw_p13 : lw_okq (⟨"CrossingWords$Court", "learnGivens", "(LCrossingWords$Case;I[II)V"⟩, 11) := ⟨⟨by decide +kernel, by decide +kernel⟩, List.mem_of_getElem? (i := 128) (by decide +kernel), List.mem_of_getElem? (i := 641) (by decide +kernel), List.mem_of_getElem? (i := 642) (by decide +kernel)⟩
theorem lw_p14 : lw_okq (⟨"CrossingWords$Court", "markNeeded", "(LCrossingWords$Case;I)Z"⟩, 11) := ⟨⟨by decide +kernel, by decide +kernel⟩, List.mem_of_getElem? (i := 128) (by decide +kernel), List.mem_of_getElem? (i := 645) (by decide +kernel), List.mem_of_getElem? (i := 646) (by decide +kernel)⟩
theorem lw_p15 : lw_okq (⟨"CrossingWords$Court", "markGivens", "(LCrossingWords$Case;)Z"⟩, 11) := ⟨⟨by decide +kernel, by decide +kernel⟩, List.mem_of_getElem? (i := 128) (by decide +kernel), List.mem_of_getElem? (i := 649) (by decide +kernel), List.mem_of_getElem? (i := 650) (by decide +kernel)⟩
def lw_privs_1 : List (MethodName × Nat) := [(⟨"CrossingWords$CaseReader", "readSaying", "(I)V"⟩, 3), (⟨"CrossingWords$CaseReader", "readOther", "(I)V"⟩, 3), (⟨"CrossingWords$CaseReader", "readSaid", "(II)V"⟩, 3), (⟨"CrossingWords$CaseReader", "fits", "(III)Z"⟩, 3), (⟨"CrossingWords$CaseReader", "readTerms", "(I)V"⟩, 3), (⟨"CrossingWords$CaseReader", "readWords", "(I)V"⟩, 3), (⟨"CrossingWords$CaseReader", "readBut", "(I)V"⟩, 3), (⟨"CrossingWords$CaseReader", "readTimes", "(I)V"⟩, 3), (⟨"CrossingWords$CaseReader", "readSpan", "(III)V"⟩, 3), (⟨"CrossingWords", "endReading", "()V"⟩, 9), (⟨"CrossingWords$LawReader", "readRule", "()V"⟩, 2), (⟨"CrossingWords$LawReader", "readYes", "()V"⟩, 2), (⟨"CrossingWords$Bench", "setHours", "(II)V"⟩, 16), (⟨"CrossingWords$Court", "learnGivens", "(LCrossingWords$Case;I[II)V"⟩, 11), (⟨"CrossingWords$Court", "markNeeded", "(LCrossingWords$Case;I)Z"⟩, 11), (⟨"CrossingWords$Court", "markGivens", "(LCrossingWords$Case;)Z"⟩, 11)]
theorem lw_r1 : ∀ q ∈ lw_privs_1, lw_okq q := List.forall_mem_cons.mpr ⟨lw_p0, List.forall_mem_cons.mpr ⟨lw_p1, List.forall_mem_cons.mpr ⟨lw_p2, List.forall_mem_cons.mpr ⟨lw_p3, List.forall_mem_cons.mpr ⟨lw_p4, List.forall_mem_cons.mpr ⟨lw_p5, List.forall_mem_cons.mpr ⟨lw_p6, List.forall_mem_cons.mpr ⟨lw_p7, List.forall_mem_cons.mpr ⟨lw_p8, List.forall_mem_cons.mpr ⟨lw_p9, List.forall_mem_cons.mpr ⟨lw_p10, List.forall_mem_cons.mpr ⟨lw_p11, List.forall_mem_cons.mpr ⟨lw_p12, List.forall_mem_cons.mpr ⟨lw_p13, List.forall_mem_cons.mpr ⟨lw_p14, List.forall_mem_cons.mpr ⟨lw_p15, fun _ h => absurd h List.not_mem_nil⟩⟩⟩⟩⟩⟩⟩⟩⟩⟩⟩⟩⟩⟩⟩⟩
theorem lw_p16 : lw_okq (⟨"CrossingWords$Bench", "openOffers", "()V"⟩, 16) := ⟨⟨by decide +kernel, by decide +kernel⟩, List.mem_of_getElem? (i := 184) (by decide +kernel), List.mem_of_getElem? (i := 662) (by decide +kernel), List.mem_of_getElem? (i := 663) (by decide +kernel)⟩
theorem lw_p17 : lw_okq (⟨"CrossingWords$Bench", "endAt", "(IIII)V"⟩, 16) := ⟨⟨by decide +kernel, by decide +kernel⟩, List.mem_of_getElem? (i := 184) (by decide +kernel), List.mem_of_getElem? (i := 667) (by decide +kernel), List.mem_of_getElem? (i := 668) (by decide +kernel)⟩
theorem lw_p18 : lw_okq (⟨"CrossingWords$Bench", "takeBack", "()V"⟩, 16) := ⟨⟨by decide +kernel, by decide +kernel⟩, List.mem_of_getElem? (i := 184) (by decide +kernel), List.mem_of_getElem? (i := 671) (by decide +kernel), List.mem_of_getElem? (i := 672) (by decide +kernel)⟩
theorem lw_p19 : lw_okq (⟨"CrossingWords$Bench", "freeFrom", "(I)I"⟩, 16) := ⟨⟨by decide +kernel, by decide +kernel⟩, List.mem_of_getElem? (i := 184) (by decide +kernel), List.mem_of_getElem? (i := 676) (by decide +kernel), List.mem_of_getElem? (i := 677) (by decide +kernel)⟩
theorem lw_p20 : lw_okq (⟨"CrossingWords$Bench", "hearAnswers", "()V"⟩, 16) := ⟨⟨by decide +kernel, by decide +kernel⟩, List.mem_of_getElem? (i := 184) (by decide +kernel), List.mem_of_getElem? (i := 680) (by decide +kernel), List.mem_of_getElem? (i := 681) (by decide +kernel)⟩
theorem lw_p21 : lw_okq (⟨"CrossingWords$Bench", "tryYeses", "()V"⟩, 16) := ⟨⟨by decide +kernel, by decide +kernel⟩, List.mem_of_getElem? (i := 184) (by decide +kernel), List.mem_of_getElem? (i := 684) (by decide +kernel), List.mem_of_getElem? (i := 685) (by decide +kernel)⟩
theorem lw_p22 : lw_okq (⟨"CrossingWords$Bench", "yesWhen", "(I)I"⟩, 16) := ⟨⟨by decide +kernel, by decide +kernel⟩, List.mem_of_getElem? (i := 184) (by decide +kernel), List.mem_of_getElem? (i := 688) (by decide +kernel), List.mem_of_getElem? (i := 689) (by decide +kernel)⟩
theorem lw_p23 : lw_okq (⟨"CrossingWords$Bench", "isOpenAt", "(II)Z"⟩, 16) := ⟨⟨by decide +kernel, by decide +kernel⟩, List.mem_of_getElem? (i := 184) (by decide +kernel), List.mem_of_getElem? (i := 692) (by decide +kernel), List.mem_of_getElem? (i := 693) (by decide +kernel)⟩
theorem lw_p24 : lw_okq (⟨"CrossingWords$Bench", "trySilence", "()V"⟩, 16) := ⟨⟨by decide +kernel, by decide +kernel⟩, List.mem_of_getElem? (i := 184) (by decide +kernel), List.mem_of_getElem? (i := 696) (by decide +kernel), List.mem_of_getElem? (i := 697) (by decide +kernel)⟩
theorem lw_p25 : lw_okq (⟨"CrossingWords$Court", "tallyBargain", "(I)V"⟩, 11) := ⟨⟨by decide +kernel, by decide +kernel⟩, List.mem_of_getElem? (i := 128) (by decide +kernel), List.mem_of_getElem? (i := 742) (by decide +kernel), List.mem_of_getElem? (i := 743) (by decide +kernel)⟩
theorem lw_p26 : lw_okq (⟨"CrossingWords$Court", "turnsAnswer", "(II)Z"⟩, 11) := ⟨⟨by decide +kernel, by decide +kernel⟩, List.mem_of_getElem? (i := 128) (by decide +kernel), List.mem_of_getElem? (i := 756) (by decide +kernel), List.mem_of_getElem? (i := 757) (by decide +kernel)⟩
theorem lw_p27 : lw_okq (⟨"CrossingWords$Bench", "riskPasses", "()I"⟩, 16) := ⟨⟨by decide +kernel, by decide +kernel⟩, List.mem_of_getElem? (i := 184) (by decide +kernel), List.mem_of_getElem? (i := 769) (by decide +kernel), List.mem_of_getElem? (i := 770) (by decide +kernel)⟩
theorem lw_p28 : lw_okq (⟨"CrossingWords$Court", "partsIn", "(I)Z"⟩, 11) := ⟨⟨by decide +kernel, by decide +kernel⟩, List.mem_of_getElem? (i := 128) (by decide +kernel), List.mem_of_getElem? (i := 789) (by decide +kernel), List.mem_of_getElem? (i := 790) (by decide +kernel)⟩
theorem lw_p29 : lw_okq (⟨"CrossingWords$Bench", "forestalls", "(II)Z"⟩, 16) := ⟨⟨by decide +kernel, by decide +kernel⟩, List.mem_of_getElem? (i := 184) (by decide +kernel), List.mem_of_getElem? (i := 830) (by decide +kernel), List.mem_of_getElem? (i := 831) (by decide +kernel)⟩
theorem lw_p30 : lw_okq (⟨"CrossingWords$Bench", "mayFrom", "(III)I"⟩, 16) := ⟨⟨by decide +kernel, by decide +kernel⟩, List.mem_of_getElem? (i := 184) (by decide +kernel), List.mem_of_getElem? (i := 845) (by decide +kernel), List.mem_of_getElem? (i := 846) (by decide +kernel)⟩
theorem lw_p31 : lw_okq (⟨"CrossingWords$Bench", "mayTo", "(I)I"⟩, 16) := ⟨⟨by decide +kernel, by decide +kernel⟩, List.mem_of_getElem? (i := 184) (by decide +kernel), List.mem_of_getElem? (i := 850) (by decide +kernel), List.mem_of_getElem? (i := 851) (by decide +kernel)⟩
def lw_privs_2 : List (MethodName × Nat) := [(⟨"CrossingWords$Bench", "openOffers", "()V"⟩, 16), (⟨"CrossingWords$Bench", "endAt", "(IIII)V"⟩, 16), (⟨"CrossingWords$Bench", "takeBack", "()V"⟩, 16), (⟨"CrossingWords$Bench", "freeFrom", "(I)I"⟩, 16), (⟨"CrossingWords$Bench", "hearAnswers", "()V"⟩, 16), (⟨"CrossingWords$Bench", "tryYeses", "()V"⟩, 16), (⟨"CrossingWords$Bench", "yesWhen", "(I)I"⟩, 16), (⟨"CrossingWords$Bench", "isOpenAt", "(II)Z"⟩, 16), (⟨"CrossingWords$Bench", "trySilence", "()V"⟩, 16), (⟨"CrossingWords$Court", "tallyBargain", "(I)V"⟩, 11), (⟨"CrossingWords$Court", "turnsAnswer", "(II)Z"⟩, 11), (⟨"CrossingWords$Bench", "riskPasses", "()I"⟩, 16), (⟨"CrossingWords$Court", "partsIn", "(I)Z"⟩, 11), (⟨"CrossingWords$Bench", "forestalls", "(II)Z"⟩, 16), (⟨"CrossingWords$Bench", "mayFrom", "(III)I"⟩, 16), (⟨"CrossingWords$Bench", "mayTo", "(I)I"⟩, 16)]
theorem lw_r2 : ∀ q ∈ lw_privs_2, lw_okq q := List.forall_mem_cons.mpr ⟨lw_p16, List.forall_mem_cons.mpr ⟨lw_p17, List.forall_mem_cons.mpr ⟨lw_p18, List.forall_mem_cons.mpr ⟨lw_p19, List.forall_mem_cons.mpr ⟨lw_p20, List.forall_mem_cons.mpr ⟨lw_p21, List.forall_mem_cons.mpr ⟨lw_p22, List.forall_mem_cons.mpr ⟨lw_p23, List.forall_mem_cons.mpr ⟨lw_p24, List.forall_mem_cons.mpr ⟨lw_p25, List.forall_mem_cons.mpr ⟨lw_p26, List.forall_mem_cons.mpr ⟨lw_p27, List.forall_mem_cons.mpr ⟨lw_p28, List.forall_mem_cons.mpr ⟨lw_p29, List.forall_mem_cons.mpr ⟨lw_p30, List.forall_mem_cons.mpr ⟨lw_p31, fun _ h => absurd h List.not_mem_nil⟩⟩⟩⟩⟩⟩⟩⟩⟩⟩⟩⟩⟩⟩⟩⟩
theorem lw_p32 : lw_okq (⟨"CrossingWords", "countChanged", "(LCrossingWords$Case;II)I"⟩, 9) := ⟨⟨by decide +kernel, by decide +kernel⟩, List.mem_of_getElem? (i := 19) (by decide +kernel), List.mem_of_getElem? (i := 874) (by decide +kernel), List.mem_of_getElem? (i := 875) (by decide +kernel)⟩
theorem lw_p33 : lw_okq (⟨"CrossingWordsModel", "begins", "(I)V"⟩, 63) := ⟨⟨by decide +kernel, by decide +kernel⟩, List.mem_of_getElem? (i := 909) (by decide +kernel), List.mem_of_getElem? (i := 1113) (by decide +kernel), List.mem_of_getElem? (i := 1114) (by decide +kernel)⟩
theorem lw_p34 : lw_okq (⟨"CrossingWordsModel", "next", "()V"⟩, 63) := ⟨⟨by decide +kernel, by decide +kernel⟩, List.mem_of_getElem? (i := 909) (by decide +kernel), List.mem_of_getElem? (i := 1117) (by decide +kernel), List.mem_of_getElem? (i := 1118) (by decide +kernel)⟩
theorem lw_p35 : lw_okq (⟨"CrossingWordsModel", "here", "()I"⟩, 63) := ⟨⟨by decide +kernel, by decide +kernel⟩, List.mem_of_getElem? (i := 909) (by decide +kernel), List.mem_of_getElem? (i := 1121) (by decide +kernel), List.mem_of_getElem? (i := 1122) (by decide +kernel)⟩
theorem lw_p36 : lw_okq (⟨"CrossingWordsModel", "readSayings", "(II)I"⟩, 63) := ⟨⟨by decide +kernel, by decide +kernel⟩, List.mem_of_getElem? (i := 909) (by decide +kernel), List.mem_of_getElem? (i := 1131) (by decide +kernel), List.mem_of_getElem? (i := 1132) (by decide +kernel)⟩
theorem lw_p37 : lw_okq (⟨"CrossingWordsModel", "errs", "()V"⟩, 63) := ⟨⟨by decide +kernel, by decide +kernel⟩, List.mem_of_getElem? (i := 909) (by decide +kernel), List.mem_of_getElem? (i := 1135) (by decide +kernel), List.mem_of_getElem? (i := 1136) (by decide +kernel)⟩
theorem lw_p38 : lw_okq (⟨"CrossingWordsModel", "readSaying", "(II)V"⟩, 63) := ⟨⟨by decide +kernel, by decide +kernel⟩, List.mem_of_getElem? (i := 909) (by decide +kernel), List.mem_of_getElem? (i := 1139) (by decide +kernel), List.mem_of_getElem? (i := 1140) (by decide +kernel)⟩
theorem lw_p39 : lw_okq (⟨"CrossingWordsModel", "whatHere", "()I"⟩, 63) := ⟨⟨by decide +kernel, by decide +kernel⟩, List.mem_of_getElem? (i := 909) (by decide +kernel), List.mem_of_getElem? (i := 1143) (by decide +kernel), List.mem_of_getElem? (i := 1144) (by decide +kernel)⟩
theorem lw_p40 : lw_okq (⟨"CrossingWordsModel", "handHere", "(I)I"⟩, 63) := ⟨⟨by decide +kernel, by decide +kernel⟩, List.mem_of_getElem? (i := 909) (by decide +kernel), List.mem_of_getElem? (i := 1154) (by decide +kernel), List.mem_of_getElem? (i := 1155) (by decide +kernel)⟩
theorem lw_p41 : lw_okq (⟨"CrossingWordsModel", "saidHere", "(IIII)I"⟩, 63) := ⟨⟨by decide +kernel, by decide +kernel⟩, List.mem_of_getElem? (i := 909) (by decide +kernel), List.mem_of_getElem? (i := 1159) (by decide +kernel), List.mem_of_getElem? (i := 1160) (by decide +kernel)⟩
theorem lw_p42 : lw_okq (⟨"CrossingWordsModel", "isOffer", "(I)Z"⟩, 63) := ⟨⟨by decide +kernel, by decide +kernel⟩, List.mem_of_getElem? (i := 909) (by decide +kernel), List.mem_of_getElem? (i := 1163) (by decide +kernel), List.mem_of_getElem? (i := 1164) (by decide +kernel)⟩
theorem lw_p43 : lw_okq (⟨"CrossingWordsModel", "words", "(IZ)V"⟩, 63) := ⟨⟨by decide +kernel, by decide +kernel⟩, List.mem_of_getElem? (i := 909) (by decide +kernel), List.mem_of_getElem? (i := 1167) (by decide +kernel), List.mem_of_getElem? (i := 1168) (by decide +kernel)⟩
theorem lw_p44 : lw_okq (⟨"CrossingWordsModel", "wordHere", "()I"⟩, 63) := ⟨⟨by decide +kernel, by decide +kernel⟩, List.mem_of_getElem? (i := 909) (by decide +kernel), List.mem_of_getElem? (i := 1171) (by decide +kernel), List.mem_of_getElem? (i := 1172) (by decide +kernel)⟩
theorem lw_p45 : lw_okq (⟨"CrossingWordsModel", "numeral", "(II)I"⟩, 63) := ⟨⟨by decide +kernel, by decide +kernel⟩, List.mem_of_getElem? (i := 909) (by decide +kernel), List.mem_of_getElem? (i := 1180) (by decide +kernel), List.mem_of_getElem? (i := 1181) (by decide +kernel)⟩
theorem lw_p46 : lw_okq (⟨"CrossingWordsModel", "is", "(J)Z"⟩, 63) := ⟨⟨by decide +kernel, by decide +kernel⟩, List.mem_of_getElem? (i := 909) (by decide +kernel), List.mem_of_getElem? (i := 1185) (by decide +kernel), List.mem_of_getElem? (i := 1186) (by decide +kernel)⟩
theorem lw_p47 : lw_okq (⟨"CrossingWordsModel", "times", "(I)V"⟩, 63) := ⟨⟨by decide +kernel, by decide +kernel⟩, List.mem_of_getElem? (i := 909) (by decide +kernel), List.mem_of_getElem? (i := 1191) (by decide +kernel), List.mem_of_getElem? (i := 1192) (by decide +kernel)⟩
def lw_privs_3 : List (MethodName × Nat) := [(⟨"CrossingWords", "countChanged", "(LCrossingWords$Case;II)I"⟩, 9), (⟨"CrossingWordsModel", "begins", "(I)V"⟩, 63), (⟨"CrossingWordsModel", "next", "()V"⟩, 63), (⟨"CrossingWordsModel", "here", "()I"⟩, 63), (⟨"CrossingWordsModel", "readSayings", "(II)I"⟩, 63), (⟨"CrossingWordsModel", "errs", "()V"⟩, 63), (⟨"CrossingWordsModel", "readSaying", "(II)V"⟩, 63), (⟨"CrossingWordsModel", "whatHere", "()I"⟩, 63), (⟨"CrossingWordsModel", "handHere", "(I)I"⟩, 63), (⟨"CrossingWordsModel", "saidHere", "(IIII)I"⟩, 63), (⟨"CrossingWordsModel", "isOffer", "(I)Z"⟩, 63), (⟨"CrossingWordsModel", "words", "(IZ)V"⟩, 63), (⟨"CrossingWordsModel", "wordHere", "()I"⟩, 63), (⟨"CrossingWordsModel", "numeral", "(II)I"⟩, 63), (⟨"CrossingWordsModel", "is", "(J)Z"⟩, 63), (⟨"CrossingWordsModel", "times", "(I)V"⟩, 63)]
theorem lw_r3 : ∀ q ∈ lw_privs_3, lw_okq q := List.forall_mem_cons.mpr ⟨lw_p32, List.forall_mem_cons.mpr ⟨lw_p33, List.forall_mem_cons.mpr ⟨lw_p34, List.forall_mem_cons.mpr ⟨lw_p35, List.forall_mem_cons.mpr ⟨lw_p36, List.forall_mem_cons.mpr ⟨lw_p37, List.forall_mem_cons.mpr ⟨lw_p38, List.forall_mem_cons.mpr ⟨lw_p39, List.forall_mem_cons.mpr ⟨lw_p40, List.forall_mem_cons.mpr ⟨lw_p41, List.forall_mem_cons.mpr ⟨lw_p42, List.forall_mem_cons.mpr ⟨lw_p43, List.forall_mem_cons.mpr ⟨lw_p44, List.forall_mem_cons.mpr ⟨lw_p45, List.forall_mem_cons.mpr ⟨lw_p46, List.forall_mem_cons.mpr ⟨lw_p47, fun _ h => absurd h List.not_mem_nil⟩⟩⟩⟩⟩⟩⟩⟩⟩⟩⟩⟩⟩⟩⟩⟩
theorem lw_p48 : lw_okq (⟨"CrossingWordsModel", "wayHere", "()I"⟩, 63) := ⟨⟨by decide +kernel, by decide +kernel⟩, List.mem_of_getElem? (i := 909) (by decide +kernel), List.mem_of_getElem? (i := 1195) (by decide +kernel), List.mem_of_getElem? (i := 1196) (by decide +kernel)⟩
theorem lw_p49 : lw_okq (⟨"CrossingWordsModel", "mustBe", "(J)V"⟩, 63) := ⟨⟨by decide +kernel, by decide +kernel⟩, List.mem_of_getElem? (i := 909) (by decide +kernel), List.mem_of_getElem? (i := 1203) (by decide +kernel), List.mem_of_getElem? (i := 1204) (by decide +kernel)⟩
theorem lw_p50 : lw_okq (⟨"CrossingWordsModel", "span", "(III)V"⟩, 63) := ⟨⟨by decide +kernel, by decide +kernel⟩, List.mem_of_getElem? (i := 909) (by decide +kernel), List.mem_of_getElem? (i := 1207) (by decide +kernel), List.mem_of_getElem? (i := 1208) (by decide +kernel)⟩
theorem lw_p51 : lw_okq (⟨"CrossingWordsModel", "ends", "()V"⟩, 63) := ⟨⟨by decide +kernel, by decide +kernel⟩, List.mem_of_getElem? (i := 909) (by decide +kernel), List.mem_of_getElem? (i := 1215) (by decide +kernel), List.mem_of_getElem? (i := 1216) (by decide +kernel)⟩
theorem lw_p52 : lw_okq (⟨"CrossingWordsModel", "isCase", "(I)Z"⟩, 63) := ⟨⟨by decide +kernel, by decide +kernel⟩, List.mem_of_getElem? (i := 909) (by decide +kernel), List.mem_of_getElem? (i := 1223) (by decide +kernel), List.mem_of_getElem? (i := 1224) (by decide +kernel)⟩
theorem lw_p53 : lw_okq (⟨"CrossingWordsModel", "readRules", "(I)Z"⟩, 63) := ⟨⟨by decide +kernel, by decide +kernel⟩, List.mem_of_getElem? (i := 909) (by decide +kernel), List.mem_of_getElem? (i := 1231) (by decide +kernel), List.mem_of_getElem? (i := 1232) (by decide +kernel)⟩
theorem lw_p54 : lw_okq (⟨"CrossingWordsModel", "readRule", "(I)V"⟩, 63) := ⟨⟨by decide +kernel, by decide +kernel⟩, List.mem_of_getElem? (i := 909) (by decide +kernel), List.mem_of_getElem? (i := 1235) (by decide +kernel), List.mem_of_getElem? (i := 1236) (by decide +kernel)⟩
theorem lw_p55 : lw_okq (⟨"CrossingWordsModel", "one", "(JJJ)I"⟩, 63) := ⟨⟨by decide +kernel, by decide +kernel⟩, List.mem_of_getElem? (i := 909) (by decide +kernel), List.mem_of_getElem? (i := 1240) (by decide +kernel), List.mem_of_getElem? (i := 1241) (by decide +kernel)⟩
theorem lw_p56 : lw_okq (⟨"CrossingWordsModel", "whenHere", "()I"⟩, 63) := ⟨⟨by decide +kernel, by decide +kernel⟩, List.mem_of_getElem? (i := 909) (by decide +kernel), List.mem_of_getElem? (i := 1244) (by decide +kernel), List.mem_of_getElem? (i := 1245) (by decide +kernel)⟩
theorem lw_p57 : lw_okq (⟨"CrossingWordsModel", "isLaw", "(I)Z"⟩, 63) := ⟨⟨by decide +kernel, by decide +kernel⟩, List.mem_of_getElem? (i := 909) (by decide +kernel), List.mem_of_getElem? (i := 1274) (by decide +kernel), List.mem_of_getElem? (i := 1275) (by decide +kernel)⟩
theorem lw_p58 : lw_okq (⟨"CrossingWordsModel", "lays", "(II)V"⟩, 63) := ⟨⟨by decide +kernel, by decide +kernel⟩, List.mem_of_getElem? (i := 909) (by decide +kernel), List.mem_of_getElem? (i := 1278) (by decide +kernel), List.mem_of_getElem? (i := 1279) (by decide +kernel)⟩
theorem lw_p59 : lw_okq (⟨"CrossingWordsModel", "bringPlain", "(I)V"⟩, 63) := ⟨⟨by decide +kernel, by decide +kernel⟩, List.mem_of_getElem? (i := 909) (by decide +kernel), List.mem_of_getElem? (i := 1290) (by decide +kernel), List.mem_of_getElem? (i := 1291) (by decide +kernel)⟩
theorem lw_p60 : lw_okq (⟨"CrossingWordsModel", "bring", "(I)V"⟩, 63) := ⟨⟨by decide +kernel, by decide +kernel⟩, List.mem_of_getElem? (i := 909) (by decide +kernel), List.mem_of_getElem? (i := 1294) (by decide +kernel), List.mem_of_getElem? (i := 1295) (by decide +kernel)⟩
theorem lw_p61 : lw_okq (⟨"CrossingWordsModel", "findAsked", "()V"⟩, 63) := ⟨⟨by decide +kernel, by decide +kernel⟩, List.mem_of_getElem? (i := 909) (by decide +kernel), List.mem_of_getElem? (i := 1298) (by decide +kernel), List.mem_of_getElem? (i := 1299) (by decide +kernel)⟩
theorem lw_p62 : lw_okq (⟨"CrossingWordsModel", "isLooked", "()Z"⟩, 63) := ⟨⟨by decide +kernel, by decide +kernel⟩, List.mem_of_getElem? (i := 909) (by decide +kernel), List.mem_of_getElem? (i := 1302) (by decide +kernel), List.mem_of_getElem? (i := 1303) (by decide +kernel)⟩
theorem lw_p63 : lw_okq (⟨"CrossingWordsModel", "hours", "(I)V"⟩, 63) := ⟨⟨by decide +kernel, by decide +kernel⟩, List.mem_of_getElem? (i := 909) (by decide +kernel), List.mem_of_getElem? (i := 1310) (by decide +kernel), List.mem_of_getElem? (i := 1311) (by decide +kernel)⟩
def lw_privs_4 : List (MethodName × Nat) := [(⟨"CrossingWordsModel", "wayHere", "()I"⟩, 63), (⟨"CrossingWordsModel", "mustBe", "(J)V"⟩, 63), (⟨"CrossingWordsModel", "span", "(III)V"⟩, 63), (⟨"CrossingWordsModel", "ends", "()V"⟩, 63), (⟨"CrossingWordsModel", "isCase", "(I)Z"⟩, 63), (⟨"CrossingWordsModel", "readRules", "(I)Z"⟩, 63), (⟨"CrossingWordsModel", "readRule", "(I)V"⟩, 63), (⟨"CrossingWordsModel", "one", "(JJJ)I"⟩, 63), (⟨"CrossingWordsModel", "whenHere", "()I"⟩, 63), (⟨"CrossingWordsModel", "isLaw", "(I)Z"⟩, 63), (⟨"CrossingWordsModel", "lays", "(II)V"⟩, 63), (⟨"CrossingWordsModel", "bringPlain", "(I)V"⟩, 63), (⟨"CrossingWordsModel", "bring", "(I)V"⟩, 63), (⟨"CrossingWordsModel", "findAsked", "()V"⟩, 63), (⟨"CrossingWordsModel", "isLooked", "()Z"⟩, 63), (⟨"CrossingWordsModel", "hours", "(I)V"⟩, 63)]
theorem lw_r4 : ∀ q ∈ lw_privs_4, lw_okq q := List.forall_mem_cons.mpr ⟨lw_p48, List.forall_mem_cons.mpr ⟨lw_p49, List.forall_mem_cons.mpr ⟨lw_p50, List.forall_mem_cons.mpr ⟨lw_p51, List.forall_mem_cons.mpr ⟨lw_p52, List.forall_mem_cons.mpr ⟨lw_p53, List.forall_mem_cons.mpr ⟨lw_p54, List.forall_mem_cons.mpr ⟨lw_p55, List.forall_mem_cons.mpr ⟨lw_p56, List.forall_mem_cons.mpr ⟨lw_p57, List.forall_mem_cons.mpr ⟨lw_p58, List.forall_mem_cons.mpr ⟨lw_p59, List.forall_mem_cons.mpr ⟨lw_p60, List.forall_mem_cons.mpr ⟨lw_p61, List.forall_mem_cons.mpr ⟨lw_p62, List.forall_mem_cons.mpr ⟨lw_p63, fun _ h => absurd h List.not_mem_nil⟩⟩⟩⟩⟩⟩⟩⟩⟩⟩⟩⟩⟩⟩⟩⟩
theorem lw_p64 : lw_okq (⟨"CrossingWordsModel", "when", "(II)I"⟩, 63) := ⟨⟨by decide +kernel, by decide +kernel⟩, List.mem_of_getElem? (i := 909) (by decide +kernel), List.mem_of_getElem? (i := 1314) (by decide +kernel), List.mem_of_getElem? (i := 1315) (by decide +kernel)⟩
theorem lw_p65 : lw_okq (⟨"CrossingWordsModel", "looksAt", "(III)Z"⟩, 63) := ⟨⟨by decide +kernel, by decide +kernel⟩, List.mem_of_getElem? (i := 909) (by decide +kernel), List.mem_of_getElem? (i := 1322) (by decide +kernel), List.mem_of_getElem? (i := 1323) (by decide +kernel)⟩
theorem lw_p66 : lw_okq (⟨"CrossingWordsModel", "takes", "(I)V"⟩, 63) := ⟨⟨by decide +kernel, by decide +kernel⟩, List.mem_of_getElem? (i := 909) (by decide +kernel), List.mem_of_getElem? (i := 1326) (by decide +kernel), List.mem_of_getElem? (i := 1327) (by decide +kernel)⟩
theorem lw_p67 : lw_okq (⟨"CrossingWordsModel", "isSureNow", "()Z"⟩, 63) := ⟨⟨by decide +kernel, by decide +kernel⟩, List.mem_of_getElem? (i := 909) (by decide +kernel), List.mem_of_getElem? (i := 1330) (by decide +kernel), List.mem_of_getElem? (i := 1331) (by decide +kernel)⟩
theorem lw_p68 : lw_okq (⟨"CrossingWordsModel", "looks", "(I)V"⟩, 63) := ⟨⟨by decide +kernel, by decide +kernel⟩, List.mem_of_getElem? (i := 909) (by decide +kernel), List.mem_of_getElem? (i := 1334) (by decide +kernel), List.mem_of_getElem? (i := 1335) (by decide +kernel)⟩
theorem lw_p69 : lw_okq (⟨"CrossingWordsModel", "findOffers", "()V"⟩, 63) := ⟨⟨by decide +kernel, by decide +kernel⟩, List.mem_of_getElem? (i := 909) (by decide +kernel), List.mem_of_getElem? (i := 1338) (by decide +kernel), List.mem_of_getElem? (i := 1339) (by decide +kernel)⟩
theorem lw_p70 : lw_okq (⟨"CrossingWordsModel", "isOffering", "(I)Z"⟩, 63) := ⟨⟨by decide +kernel, by decide +kernel⟩, List.mem_of_getElem? (i := 909) (by decide +kernel), List.mem_of_getElem? (i := 1342) (by decide +kernel), List.mem_of_getElem? (i := 1343) (by decide +kernel)⟩
theorem lw_p71 : lw_okq (⟨"CrossingWordsModel", "isSmall", "(I)Z"⟩, 63) := ⟨⟨by decide +kernel, by decide +kernel⟩, List.mem_of_getElem? (i := 909) (by decide +kernel), List.mem_of_getElem? (i := 1346) (by decide +kernel), List.mem_of_getElem? (i := 1347) (by decide +kernel)⟩
theorem lw_p72 : lw_okq (⟨"CrossingWordsModel", "backHour", "(II)I"⟩, 63) := ⟨⟨by decide +kernel, by decide +kernel⟩, List.mem_of_getElem? (i := 909) (by decide +kernel), List.mem_of_getElem? (i := 1350) (by decide +kernel), List.mem_of_getElem? (i := 1351) (by decide +kernel)⟩
theorem lw_p73 : lw_okq (⟨"CrossingWordsModel", "endsBy", "(III)V"⟩, 63) := ⟨⟨by decide +kernel, by decide +kernel⟩, List.mem_of_getElem? (i := 909) (by decide +kernel), List.mem_of_getElem? (i := 1354) (by decide +kernel), List.mem_of_getElem? (i := 1355) (by decide +kernel)⟩
theorem lw_p74 : lw_okq (⟨"CrossingWordsModel", "noHour", "(II)I"⟩, 63) := ⟨⟨by decide +kernel, by decide +kernel⟩, List.mem_of_getElem? (i := 909) (by decide +kernel), List.mem_of_getElem? (i := 1358) (by decide +kernel), List.mem_of_getElem? (i := 1359) (by decide +kernel)⟩
theorem lw_p75 : lw_okq (⟨"CrossingWordsModel", "isNo", "(I)Z"⟩, 63) := ⟨⟨by decide +kernel, by decide +kernel⟩, List.mem_of_getElem? (i := 909) (by decide +kernel), List.mem_of_getElem? (i := 1362) (by decide +kernel), List.mem_of_getElem? (i := 1363) (by decide +kernel)⟩
theorem lw_p76 : lw_okq (⟨"CrossingWordsModel", "findBargain", "()V"⟩, 63) := ⟨⟨by decide +kernel, by decide +kernel⟩, List.mem_of_getElem? (i := 909) (by decide +kernel), List.mem_of_getElem? (i := 1366) (by decide +kernel), List.mem_of_getElem? (i := 1367) (by decide +kernel)⟩
theorem lw_p77 : lw_okq (⟨"CrossingWordsModel", "isYes", "(I)Z"⟩, 63) := ⟨⟨by decide +kernel, by decide +kernel⟩, List.mem_of_getElem? (i := 909) (by decide +kernel), List.mem_of_getElem? (i := 1370) (by decide +kernel), List.mem_of_getElem? (i := 1371) (by decide +kernel)⟩
theorem lw_p78 : lw_okq (⟨"CrossingWordsModel", "yesHour", "(I)I"⟩, 63) := ⟨⟨by decide +kernel, by decide +kernel⟩, List.mem_of_getElem? (i := 909) (by decide +kernel), List.mem_of_getElem? (i := 1374) (by decide +kernel), List.mem_of_getElem? (i := 1375) (by decide +kernel)⟩
theorem lw_p79 : lw_okq (⟨"CrossingWordsModel", "isTakenBack", "(II)Z"⟩, 63) := ⟨⟨by decide +kernel, by decide +kernel⟩, List.mem_of_getElem? (i := 909) (by decide +kernel), List.mem_of_getElem? (i := 1378) (by decide +kernel), List.mem_of_getElem? (i := 1379) (by decide +kernel)⟩
def lw_privs_5 : List (MethodName × Nat) := [(⟨"CrossingWordsModel", "when", "(II)I"⟩, 63), (⟨"CrossingWordsModel", "looksAt", "(III)Z"⟩, 63), (⟨"CrossingWordsModel", "takes", "(I)V"⟩, 63), (⟨"CrossingWordsModel", "isSureNow", "()Z"⟩, 63), (⟨"CrossingWordsModel", "looks", "(I)V"⟩, 63), (⟨"CrossingWordsModel", "findOffers", "()V"⟩, 63), (⟨"CrossingWordsModel", "isOffering", "(I)Z"⟩, 63), (⟨"CrossingWordsModel", "isSmall", "(I)Z"⟩, 63), (⟨"CrossingWordsModel", "backHour", "(II)I"⟩, 63), (⟨"CrossingWordsModel", "endsBy", "(III)V"⟩, 63), (⟨"CrossingWordsModel", "noHour", "(II)I"⟩, 63), (⟨"CrossingWordsModel", "isNo", "(I)Z"⟩, 63), (⟨"CrossingWordsModel", "findBargain", "()V"⟩, 63), (⟨"CrossingWordsModel", "isYes", "(I)Z"⟩, 63), (⟨"CrossingWordsModel", "yesHour", "(I)I"⟩, 63), (⟨"CrossingWordsModel", "isTakenBack", "(II)Z"⟩, 63)]
theorem lw_r5 : ∀ q ∈ lw_privs_5, lw_okq q := List.forall_mem_cons.mpr ⟨lw_p64, List.forall_mem_cons.mpr ⟨lw_p65, List.forall_mem_cons.mpr ⟨lw_p66, List.forall_mem_cons.mpr ⟨lw_p67, List.forall_mem_cons.mpr ⟨lw_p68, List.forall_mem_cons.mpr ⟨lw_p69, List.forall_mem_cons.mpr ⟨lw_p70, List.forall_mem_cons.mpr ⟨lw_p71, List.forall_mem_cons.mpr ⟨lw_p72, List.forall_mem_cons.mpr ⟨lw_p73, List.forall_mem_cons.mpr ⟨lw_p74, List.forall_mem_cons.mpr ⟨lw_p75, List.forall_mem_cons.mpr ⟨lw_p76, List.forall_mem_cons.mpr ⟨lw_p77, List.forall_mem_cons.mpr ⟨lw_p78, List.forall_mem_cons.mpr ⟨lw_p79, fun _ h => absurd h List.not_mem_nil⟩⟩⟩⟩⟩⟩⟩⟩⟩⟩⟩⟩⟩⟩⟩⟩
theorem lw_p80 : lw_okq (⟨"CrossingWordsModel", "isOpenAt", "(II)Z"⟩, 63) := ⟨⟨by decide +kernel, by decide +kernel⟩, List.mem_of_getElem? (i := 909) (by decide +kernel), List.mem_of_getElem? (i := 1382) (by decide +kernel), List.mem_of_getElem? (i := 1383) (by decide +kernel)⟩
theorem lw_p81 : lw_okq (⟨"CrossingWordsModel", "offersTo", "(III)V"⟩, 63) := ⟨⟨by decide +kernel, by decide +kernel⟩, List.mem_of_getElem? (i := 909) (by decide +kernel), List.mem_of_getElem? (i := 1386) (by decide +kernel), List.mem_of_getElem? (i := 1387) (by decide +kernel)⟩
theorem lw_p82 : lw_okq (⟨"CrossingWordsModel", "isAnswered", "(II)Z"⟩, 63) := ⟨⟨by decide +kernel, by decide +kernel⟩, List.mem_of_getElem? (i := 909) (by decide +kernel), List.mem_of_getElem? (i := 1390) (by decide +kernel), List.mem_of_getElem? (i := 1391) (by decide +kernel)⟩
theorem lw_p83 : lw_okq (⟨"CrossingWordsModel", "bargainWord", "(I)I"⟩, 63) := ⟨⟨by decide +kernel, by decide +kernel⟩, List.mem_of_getElem? (i := 909) (by decide +kernel), List.mem_of_getElem? (i := 1394) (by decide +kernel), List.mem_of_getElem? (i := 1395) (by decide +kernel)⟩
theorem lw_p84 : lw_okq (⟨"CrossingWordsModel", "wordOf", "(II)I"⟩, 63) := ⟨⟨by decide +kernel, by decide +kernel⟩, List.mem_of_getElem? (i := 909) (by decide +kernel), List.mem_of_getElem? (i := 1398) (by decide +kernel), List.mem_of_getElem? (i := 1399) (by decide +kernel)⟩
theorem lw_p85 : lw_okq (⟨"CrossingWordsModel", "tells", "(I)Z"⟩, 63) := ⟨⟨by decide +kernel, by decide +kernel⟩, List.mem_of_getElem? (i := 909) (by decide +kernel), List.mem_of_getElem? (i := 1421) (by decide +kernel), List.mem_of_getElem? (i := 1422) (by decide +kernel)⟩
theorem lw_p86 : lw_okq (⟨"CrossingWordsModel", "known", "(II)I"⟩, 63) := ⟨⟨by decide +kernel, by decide +kernel⟩, List.mem_of_getElem? (i := 909) (by decide +kernel), List.mem_of_getElem? (i := 1425) (by decide +kernel), List.mem_of_getElem? (i := 1426) (by decide +kernel)⟩
theorem lw_p87 : lw_okq (⟨"CrossingWordsModel", "findApart", "(III)Z"⟩, 63) := ⟨⟨by decide +kernel, by decide +kernel⟩, List.mem_of_getElem? (i := 909) (by decide +kernel), List.mem_of_getElem? (i := 1441) (by decide +kernel), List.mem_of_getElem? (i := 1442) (by decide +kernel)⟩
theorem lw_p88 : lw_okq (⟨"CrossingWordsModel", "isWritten", "(II)Z"⟩, 63) := ⟨⟨by decide +kernel, by decide +kernel⟩, List.mem_of_getElem? (i := 909) (by decide +kernel), List.mem_of_getElem? (i := 1453) (by decide +kernel), List.mem_of_getElem? (i := 1454) (by decide +kernel)⟩
theorem lw_p89 : lw_okq (⟨"CrossingWordsModel", "canAt", "(II)I"⟩, 63) := ⟨⟨by decide +kernel, by decide +kernel⟩, List.mem_of_getElem? (i := 909) (by decide +kernel), List.mem_of_getElem? (i := 1465) (by decide +kernel), List.mem_of_getElem? (i := 1466) (by decide +kernel)⟩
theorem lw_p90 : lw_okq (⟨"CrossingWordsModel", "isSaid", "(III)Z"⟩, 63) := ⟨⟨by decide +kernel, by decide +kernel⟩, List.mem_of_getElem? (i := 909) (by decide +kernel), List.mem_of_getElem? (i := 1477) (by decide +kernel), List.mem_of_getElem? (i := 1478) (by decide +kernel)⟩
theorem lw_p91 : lw_okq (⟨"CrossingWordsModel", "withBargain", "()I"⟩, 63) := ⟨⟨by decide +kernel, by decide +kernel⟩, List.mem_of_getElem? (i := 909) (by decide +kernel), List.mem_of_getElem? (i := 1481) (by decide +kernel), List.mem_of_getElem? (i := 1482) (by decide +kernel)⟩
theorem lw_p92 : lw_okq (⟨"CrossingWordsModel", "copies", "(II)V"⟩, 63) := ⟨⟨by decide +kernel, by decide +kernel⟩, List.mem_of_getElem? (i := 909) (by decide +kernel), List.mem_of_getElem? (i := 1493) (by decide +kernel), List.mem_of_getElem? (i := 1494) (by decide +kernel)⟩
theorem lw_p93 : lw_okq (⟨"CrossingWordsModel", "sayingsInAll", "()I"⟩, 63) := ⟨⟨by decide +kernel, by decide +kernel⟩, List.mem_of_getElem? (i := 909) (by decide +kernel), List.mem_of_getElem? (i := 1505) (by decide +kernel), List.mem_of_getElem? (i := 1506) (by decide +kernel)⟩
def lw_privs_6 : List (MethodName × Nat) := [(⟨"CrossingWordsModel", "isOpenAt", "(II)Z"⟩, 63), (⟨"CrossingWordsModel", "offersTo", "(III)V"⟩, 63), (⟨"CrossingWordsModel", "isAnswered", "(II)Z"⟩, 63), (⟨"CrossingWordsModel", "bargainWord", "(I)I"⟩, 63), (⟨"CrossingWordsModel", "wordOf", "(II)I"⟩, 63), (⟨"CrossingWordsModel", "tells", "(I)Z"⟩, 63), (⟨"CrossingWordsModel", "known", "(II)I"⟩, 63), (⟨"CrossingWordsModel", "findApart", "(III)Z"⟩, 63), (⟨"CrossingWordsModel", "isWritten", "(II)Z"⟩, 63), (⟨"CrossingWordsModel", "canAt", "(II)I"⟩, 63), (⟨"CrossingWordsModel", "isSaid", "(III)Z"⟩, 63), (⟨"CrossingWordsModel", "withBargain", "()I"⟩, 63), (⟨"CrossingWordsModel", "copies", "(II)V"⟩, 63), (⟨"CrossingWordsModel", "sayingsInAll", "()I"⟩, 63)]
theorem lw_r6 : ∀ q ∈ lw_privs_6, lw_okq q := List.forall_mem_cons.mpr ⟨lw_p80, List.forall_mem_cons.mpr ⟨lw_p81, List.forall_mem_cons.mpr ⟨lw_p82, List.forall_mem_cons.mpr ⟨lw_p83, List.forall_mem_cons.mpr ⟨lw_p84, List.forall_mem_cons.mpr ⟨lw_p85, List.forall_mem_cons.mpr ⟨lw_p86, List.forall_mem_cons.mpr ⟨lw_p87, List.forall_mem_cons.mpr ⟨lw_p88, List.forall_mem_cons.mpr ⟨lw_p89, List.forall_mem_cons.mpr ⟨lw_p90, List.forall_mem_cons.mpr ⟨lw_p91, List.forall_mem_cons.mpr ⟨lw_p92, List.forall_mem_cons.mpr ⟨lw_p93, fun _ h => absurd h List.not_mem_nil⟩⟩⟩⟩⟩⟩⟩⟩⟩⟩⟩⟩⟩⟩
def lw_privs : List (MethodName × Nat) := lw_privs_1 ++ (lw_privs_2 ++ (lw_privs_3 ++ (lw_privs_4 ++ (lw_privs_5 ++ (lw_privs_6)))))
def lw_tbl : List Cond := k2_sels lw_privs ++ tables_1
theorem lw_privs_ok : ∀ q ∈ lw_privs, lw_okq q := by
  show ∀ q ∈ lw_privs_1 ++ (lw_privs_2 ++ (lw_privs_3 ++ (lw_privs_4 ++ (lw_privs_5 ++ (lw_privs_6))))), lw_okq q
  exact List.forall_mem_append.mpr ⟨lw_r1, List.forall_mem_append.mpr ⟨lw_r2, List.forall_mem_append.mpr ⟨lw_r3, List.forall_mem_append.mpr ⟨lw_r4, List.forall_mem_append.mpr ⟨lw_r5, lw_r6⟩⟩⟩⟩⟩
end
section
def RX0 : String := "CrossingWords$Bench"
def TX0 : u_T := fun k => match k with
  | 0 => ("CrossingWords$Bench", "hours", "[I", true)
  | 1 => ("CrossingWords$Bench", "turnHeard", "[I", true)
  | 2 => ("CrossingWords$Bench", "offers", "[Z", true)
  | 3 => ("CrossingWords$Bench", "yeses", "[Z", true)
  | 4 => ("CrossingWords$Bench", "inVain", "[Z", true)
  | 5 => ("CrossingWords$Bench", "from", "[I", true)
  | 6 => ("CrossingWords$Bench", "end", "[I", true)
  | 7 => ("CrossingWords$Bench", "why", "[I", true)
  | 8 => ("CrossingWords$Bench", "endedBy", "[I", true)
  | 9 => ("CrossingWords$Bench", "takenBackAt", "[I", true)
  | 10 => ("CrossingWords$Bench", "answeredAt", "[I", true)
  | 11 => ("CrossingWords$Bench", "rules", "[I", false)
  | 12 => ("CrossingWords$Bench", "tale", "LCrossingWords$Case;", false)
  | 13 => ("CrossingWords$Bench", "madeBy", "I", false)
  | 14 => ("CrossingWords$Bench", "madeOf", "I", false)
  | _ => ("CrossingWords$Bench", "madeAt", "I", false)
def tyX0 : Nat → FieldType := fun k => match k with
  | 0 => .array .int
  | 1 => .array .int
  | 2 => .array .boolean
  | 3 => .array .boolean
  | 4 => .array .boolean
  | 5 => .array .int
  | 6 => .array .int
  | 7 => .array .int
  | 8 => .array .int
  | 9 => .array .int
  | 10 => .array .int
  | 11 => .array .int
  | 12 => .object "CrossingWords$Case"
  | 13 => .int
  | 14 => .int
  | _ => .int
theorem nmX0 : ∀ a, a < 16 → ∀ b, b < 16 → a ≠ b → (TX0 a).2.1 ≠ (TX0 b).2.1 := by decide +kernel
theorem tyX0_ok : ∀ k, k < 16 → parseFieldDescriptor (TX0 k).2.2.1 = some (tyX0 k) := by decide +kernel
def RX1 : String := "CrossingWords$Case"
def TX1 : u_T := fun k => match k with
  | 0 => ("CrossingWords$Case", "cells", "[I", true)
  | 1 => ("CrossingWords$Case", "size", "I", true)
  | 2 => ("CrossingWords$Case", "askedOnes", "I", true)
  | _ => ("CrossingWords$Case", "combos", "I", true)
def tyX1 : Nat → FieldType := fun k => match k with
  | 0 => .array .int
  | 1 => .int
  | 2 => .int
  | _ => .int
theorem nmX1 : ∀ a, a < 4 → ∀ b, b < 4 → a ≠ b → (TX1 a).2.1 ≠ (TX1 b).2.1 := by decide +kernel
theorem tyX1_ok : ∀ k, k < 4 → parseFieldDescriptor (TX1 k).2.2.1 = some (tyX1 k) := by decide +kernel
def RX2 : String := "CrossingWords$CaseReader"
def TX2 : u_T := fun k => match k with
  | 0 => ("CrossingWords$CaseReader", "tape", "LCrossingWords$Tape;", true)
  | 1 => ("CrossingWords$CaseReader", "cells", "[I", true)
  | _ => ("CrossingWords$CaseReader", "casesAhead", "I", false)
def tyX2 : Nat → FieldType := fun k => match k with
  | 0 => .object "CrossingWords$Tape"
  | 1 => .array .int
  | _ => .int
theorem nmX2 : ∀ a, a < 3 → ∀ b, b < 3 → a ≠ b → (TX2 a).2.1 ≠ (TX2 b).2.1 := by decide +kernel
theorem tyX2_ok : ∀ k, k < 3 → parseFieldDescriptor (TX2 k).2.2.1 = some (tyX2 k) := by decide +kernel
def RX3 : String := "CrossingWords$Court"
def TX3 : u_T := fun k => match k with
  | 0 => ("CrossingWords$Court", "shelf", "LCrossingWords$Shelf;", true)
  | 1 => ("CrossingWords$Court", "bench", "LCrossingWords$Bench;", true)
  | 2 => ("CrossingWords$Court", "otherBench", "LCrossingWords$Bench;", true)
  | 3 => ("CrossingWords$Court", "givenBench", "LCrossingWords$Bench;", true)
  | 4 => ("CrossingWords$Court", "sureCases", "[I", true)
  | 5 => ("CrossingWords$Court", "needed", "[Z", true)
  | 6 => ("CrossingWords$Court", "bargainIn", "[Z", true)
  | 7 => ("CrossingWords$Court", "mixed", "[I", true)
  | 8 => ("CrossingWords$Court", "tally", "[I", true)
  | 9 => ("CrossingWords$Court", "hardLaw", "I", false)
  | _ => ("CrossingWords$Court", "hardCombo", "I", false)
def tyX3 : Nat → FieldType := fun k => match k with
  | 0 => .object "CrossingWords$Shelf"
  | 1 => .object "CrossingWords$Bench"
  | 2 => .object "CrossingWords$Bench"
  | 3 => .object "CrossingWords$Bench"
  | 4 => .array .int
  | 5 => .array .boolean
  | 6 => .array .boolean
  | 7 => .array .int
  | 8 => .array .int
  | 9 => .int
  | _ => .int
theorem nmX3 : ∀ a, a < 11 → ∀ b, b < 11 → a ≠ b → (TX3 a).2.1 ≠ (TX3 b).2.1 := by decide +kernel
theorem tyX3_ok : ∀ k, k < 11 → parseFieldDescriptor (TX3 k).2.2.1 = some (tyX3 k) := by decide +kernel
def RX4 : String := "CrossingWords$LawReader"
def TX4 : u_T := fun k => match k with
  | 0 => ("CrossingWords$LawReader", "tape", "LCrossingWords$Tape;", true)
  | _ => ("CrossingWords$LawReader", "told", "[I", true)
def tyX4 : Nat → FieldType := fun k => match k with
  | 0 => .object "CrossingWords$Tape"
  | _ => .array .int
theorem nmX4 : ∀ a, a < 2 → ∀ b, b < 2 → a ≠ b → (TX4 a).2.1 ≠ (TX4 b).2.1 := by decide +kernel
theorem tyX4_ok : ∀ k, k < 2 → parseFieldDescriptor (TX4 k).2.2.1 = some (tyX4 k) := by decide +kernel
def RX5 : String := "CrossingWords$Shelf"
def TX5 : u_T := fun k => match k with
  | 0 => ("CrossingWords$Shelf", "cases", "[LCrossingWords$Case;", true)
  | 1 => ("CrossingWords$Shelf", "laws", "[[I", true)
  | 2 => ("CrossingWords$Shelf", "clauses", "[[I", true)
  | 3 => ("CrossingWords$Shelf", "caseCount", "I", false)
  | 4 => ("CrossingWords$Shelf", "lawCount", "I", false)
  | _ => ("CrossingWords$Shelf", "clauseCount", "I", false)
def tyX5 : Nat → FieldType := fun k => match k with
  | 0 => .array (.object "CrossingWords$Case")
  | 1 => .array (.array .int)
  | 2 => .array (.array .int)
  | 3 => .int
  | 4 => .int
  | _ => .int
theorem nmX5 : ∀ a, a < 6 → ∀ b, b < 6 → a ≠ b → (TX5 a).2.1 ≠ (TX5 b).2.1 := by decide +kernel
theorem tyX5_ok : ∀ k, k < 6 → parseFieldDescriptor (TX5 k).2.2.1 = some (tyX5 k) := by decide +kernel
def RX6 : String := "CrossingWords$Tape"
def TX6 : u_T := fun k => match k with
  | 0 => ("CrossingWords$Tape", "bytes", "[B", true)
  | 1 => ("CrossingWords$Tape", "length", "I", false)
  | 2 => ("CrossingWords$Tape", "limit", "I", false)
  | 3 => ("CrossingWords$Tape", "place", "I", false)
  | 4 => ("CrossingWords$Tape", "behind", "I", false)
  | 5 => ("CrossingWords$Tape", "sort", "I", false)
  | _ => ("CrossingWords$Tape", "failedAt", "I", false)
def tyX6 : Nat → FieldType := fun k => match k with
  | 0 => .array .byte
  | 1 => .int
  | 2 => .int
  | 3 => .int
  | 4 => .int
  | 5 => .int
  | _ => .int
theorem nmX6 : ∀ a, a < 7 → ∀ b, b < 7 → a ≠ b → (TX6 a).2.1 ≠ (TX6 b).2.1 := by decide +kernel
theorem tyX6_ok : ∀ k, k < 7 → parseFieldDescriptor (TX6 k).2.2.1 = some (tyX6 k) := by decide +kernel
def RX7 : String := "CrossingWords"
def TX7 : u_T := fun k => match k with
  | 0 => ("CrossingWords", "tape", "LCrossingWords$Tape;", true)
  | 1 => ("CrossingWords", "shelf", "LCrossingWords$Shelf;", true)
  | 2 => ("CrossingWords", "images", "[LCrossingWords$Shelf;", true)
  | 3 => ("CrossingWords", "caseReader", "LCrossingWords$CaseReader;", true)
  | 4 => ("CrossingWords", "lawReader", "LCrossingWords$LawReader;", true)
  | 5 => ("CrossingWords", "court", "LCrossingWords$Court;", true)
  | 6 => ("CrossingWords", "nothingTold", "LCrossingWords$Case;", true)
  | 7 => ("CrossingWords", "imageCount", "I", false)
  | _ => ("CrossingWords", "faultPlace", "I", false)
def tyX7 : Nat → FieldType := fun k => match k with
  | 0 => .object "CrossingWords$Tape"
  | 1 => .object "CrossingWords$Shelf"
  | 2 => .array (.object "CrossingWords$Shelf")
  | 3 => .object "CrossingWords$CaseReader"
  | 4 => .object "CrossingWords$LawReader"
  | 5 => .object "CrossingWords$Court"
  | 6 => .object "CrossingWords$Case"
  | 7 => .int
  | _ => .int
theorem nmX7 : ∀ a, a < 9 → ∀ b, b < 9 → a ≠ b → (TX7 a).2.1 ≠ (TX7 b).2.1 := by decide +kernel
theorem tyX7_ok : ∀ k, k < 9 → parseFieldDescriptor (TX7 k).2.2.1 = some (tyX7 k) := by decide +kernel
def RX8 : String := "CrossingWordsModel"
def TX8 : u_T := fun k => match k with
  | 0 => ("CrossingWordsModel", "cases", "[I", true)
  | 1 => ("CrossingWordsModel", "laws", "[I", true)
  | 2 => ("CrossingWordsModel", "clauses", "[I", true)
  | 3 => ("CrossingWordsModel", "many", "[I", true)
  | 4 => ("CrossingWordsModel", "what", "[I", true)
  | 5 => ("CrossingWordsModel", "hand", "[I", true)
  | 6 => ("CrossingWordsModel", "whom", "[I", true)
  | 7 => ("CrossingWordsModel", "said", "[I", true)
  | 8 => ("CrossingWordsModel", "way", "[I", true)
  | 9 => ("CrossingWordsModel", "hold", "[I", true)
  | 10 => ("CrossingWordsModel", "given", "[I", true)
  | 11 => ("CrossingWordsModel", "loss", "[I", true)
  | 12 => ("CrossingWordsModel", "word", "[I", true)
  | 13 => ("CrossingWordsModel", "low", "[I", true)
  | 14 => ("CrossingWordsModel", "high", "[I", true)
  | 15 => ("CrossingWordsModel", "rule", "[I", true)
  | 16 => ("CrossingWordsModel", "tape", "[B", true)
  | 17 => ("CrossingWordsModel", "taped", "I", false)
  | 18 => ("CrossingWordsModel", "faultAt", "I", false)
  | 19 => ("CrossingWordsModel", "limit", "I", false)
  | 20 => ("CrossingWordsModel", "point", "I", false)
  | 21 => ("CrossingWordsModel", "from", "I", false)
  | 22 => ("CrossingWordsModel", "token", "I", false)
  | 23 => ("CrossingWordsModel", "value", "I", false)
  | 24 => ("CrossingWordsModel", "text", "J", false)
  | 25 => ("CrossingWordsModel", "isWrong", "Z", false)
  | 26 => ("CrossingWordsModel", "rules", "[I", true)
  | 27 => ("CrossingWordsModel", "n", "I", false)
  | 28 => ("CrossingWordsModel", "asked0", "I", false)
  | 29 => ("CrossingWordsModel", "combos", "I", false)
  | 30 => ("CrossingWordsModel", "wWhat", "[I", true)
  | 31 => ("CrossingWordsModel", "wWay", "[I", true)
  | 32 => ("CrossingWordsModel", "wLoss", "[I", true)
  | 33 => ("CrossingWordsModel", "wHold", "[I", true)
  | 34 => ("CrossingWordsModel", "wSaid", "[I", true)
  | 35 => ("CrossingWordsModel", "wHand", "[I", true)
  | 36 => ("CrossingWordsModel", "wWhom", "[I", true)
  | 37 => ("CrossingWordsModel", "isBarred", "[Z", true)
  | 38 => ("CrossingWordsModel", "wWord", "[I", true)
  | 39 => ("CrossingWordsModel", "wLow", "[I", true)
  | 40 => ("CrossingWordsModel", "wHigh", "[I", true)
  | 41 => ("CrossingWordsModel", "askedOf", "[I", true)
  | 42 => ("CrossingWordsModel", "radix", "[I", true)
  | 43 => ("CrossingWordsModel", "sent", "[I", true)
  | 44 => ("CrossingWordsModel", "comes", "[I", true)
  | 45 => ("CrossingWordsModel", "isRead", "[I", true)
  | 46 => ("CrossingWordsModel", "pick", "[I", true)
  | 47 => ("CrossingWordsModel", "opens", "[I", true)
  | 48 => ("CrossingWordsModel", "endsAt", "[I", true)
  | 49 => ("CrossingWordsModel", "why", "[I", true)
  | 50 => ("CrossingWordsModel", "has", "Z", false)
  | 51 => ("CrossingWordsModel", "byYes", "I", false)
  | 52 => ("CrossingWordsModel", "byOffer", "I", false)
  | 53 => ("CrossingWordsModel", "atHour", "I", false)
  | 54 => ("CrossingWordsModel", "isSure", "[Z", true)
  | 55 => ("CrossingWordsModel", "isNeeded", "[Z", true)
  | 56 => ("CrossingWordsModel", "hasBy", "[Z", true)
  | 57 => ("CrossingWordsModel", "met", "[I", true)
  | 58 => ("CrossingWordsModel", "firstYes", "[I", true)
  | 59 => ("CrossingWordsModel", "firstWords", "[I", true)
  | 60 => ("CrossingWordsModel", "apartCount", "I", false)
  | 61 => ("CrossingWordsModel", "apartFirst", "I", false)
  | _ => ("CrossingWordsModel", "images", "I", false)
def tyX8 : Nat → FieldType := fun k => match k with
  | 0 => .array .int
  | 1 => .array .int
  | 2 => .array .int
  | 3 => .array .int
  | 4 => .array .int
  | 5 => .array .int
  | 6 => .array .int
  | 7 => .array .int
  | 8 => .array .int
  | 9 => .array .int
  | 10 => .array .int
  | 11 => .array .int
  | 12 => .array .int
  | 13 => .array .int
  | 14 => .array .int
  | 15 => .array .int
  | 16 => .array .byte
  | 17 => .int
  | 18 => .int
  | 19 => .int
  | 20 => .int
  | 21 => .int
  | 22 => .int
  | 23 => .int
  | 24 => .long
  | 25 => .boolean
  | 26 => .array .int
  | 27 => .int
  | 28 => .int
  | 29 => .int
  | 30 => .array .int
  | 31 => .array .int
  | 32 => .array .int
  | 33 => .array .int
  | 34 => .array .int
  | 35 => .array .int
  | 36 => .array .int
  | 37 => .array .boolean
  | 38 => .array .int
  | 39 => .array .int
  | 40 => .array .int
  | 41 => .array .int
  | 42 => .array .int
  | 43 => .array .int
  | 44 => .array .int
  | 45 => .array .int
  | 46 => .array .int
  | 47 => .array .int
  | 48 => .array .int
  | 49 => .array .int
  | 50 => .boolean
  | 51 => .int
  | 52 => .int
  | 53 => .int
  | 54 => .array .boolean
  | 55 => .array .boolean
  | 56 => .array .boolean
  | 57 => .array .int
  | 58 => .array .int
  | 59 => .array .int
  | 60 => .int
  | 61 => .int
  | _ => .int
theorem nmX8 : ∀ a, a < 63 → ∀ b, b < 63 → a ≠ b → (TX8 a).2.1 ≠ (TX8 b).2.1 := by decide +kernel
theorem tyX8_ok : ∀ k, k < 63 → parseFieldDescriptor (TX8 k).2.2.1 = some (tyX8 k) := by decide +kernel
def av_cn : Nat → String := fun k => match k with
  | 0 => RX0
  | 1 => RX1
  | 2 => RX2
  | 3 => RX3
  | 4 => RX4
  | 5 => RX5
  | 6 => RX6
  | 7 => RX7
  | 8 => RX8
  | 9 => "CrossingWordsLaw"
  | 10 => "java/util/Arrays"
  | 11 => "java/lang/Integer"
  | 12 => "java/lang/Math"
  | 13 => "java/lang/System"
  | 14 => "java/lang/String"
  | _ => "java/lang/Object"
def av_T : Nat → u_T := fun k => match k with
  | 0 => TX0
  | 1 => TX1
  | 2 => TX2
  | 3 => TX3
  | 4 => TX4
  | 5 => TX5
  | 6 => TX6
  | 7 => TX7
  | _ => TX8
def av_N : Nat → Nat := fun k => match k with
  | 0 => 16
  | 1 => 4
  | 2 => 3
  | 3 => 11
  | 4 => 2
  | 5 => 6
  | 6 => 7
  | 7 => 9
  | _ => 63
def av_ty : Nat → (Nat → FieldType) := fun k => match k with
  | 0 => tyX0
  | 1 => tyX1
  | 2 => tyX2
  | 3 => tyX3
  | 4 => tyX4
  | 5 => tyX5
  | 6 => tyX6
  | 7 => tyX7
  | _ => tyX8
theorem av_mem {w : Cond} {i : Nat} (h : tables_1[i]? = some w) : w ∈ lw_tbl := List.mem_append_right _ (List.mem_of_getElem? h)
theorem av_sub {ws : List Cond} (is : List Nat) (h : ws = is.filterMap (fun i => tables_1[i]?)) : ∀ w ∈ ws, w ∈ lw_tbl := by
  intro w hw
  rw [h] at hw
  obtain ⟨i, -, hi⟩ := List.mem_filterMap.mp hw
  exact av_mem hi
set_option maxRecDepth 100000 in
theorem av_lay0 : ∀ w ∈ u_ws RX0 TX0 16, w ∈ lw_tbl := av_sub [214, 216, 218, 220, 222, 224, 226, 228, 230, 232, 234, 236, 238, 240, 242, 244] rfl
set_option maxRecDepth 100000 in
theorem av_inst0 : Cond.instantiable RX0 16 ∈ lw_tbl ∧ Cond.initialized RX0 ∈ lw_tbl := ⟨av_mem (i := 184) rfl, av_mem (i := 11) rfl⟩
set_option maxRecDepth 100000 in
theorem av_lay1 : ∀ w ∈ u_ws RX1 TX1 4, w ∈ lw_tbl := av_sub [173, 175, 177, 179] rfl
set_option maxRecDepth 100000 in
theorem av_inst1 : Cond.instantiable RX1 4 ∈ lw_tbl ∧ Cond.initialized RX1 ∈ lw_tbl := ⟨av_mem (i := 134) rfl, av_mem (i := 7) rfl⟩
set_option maxRecDepth 100000 in
theorem av_lay2 : ∀ w ∈ u_ws RX2 TX2 3, w ∈ lw_tbl := av_sub [106, 108, 110] rfl
set_option maxRecDepth 100000 in
theorem av_inst2 : Cond.instantiable RX2 3 ∈ lw_tbl ∧ Cond.initialized RX2 ∈ lw_tbl := ⟨av_mem (i := 98) rfl, av_mem (i := 4) rfl⟩
set_option maxRecDepth 100000 in
theorem av_lay3 : ∀ w ∈ u_ws RX3 TX3 11, w ∈ lw_tbl := av_sub [260, 262, 264, 266, 268, 270, 272, 274, 276, 278, 280] rfl
set_option maxRecDepth 100000 in
theorem av_inst3 : Cond.instantiable RX3 11 ∈ lw_tbl ∧ Cond.initialized RX3 ∈ lw_tbl := ⟨av_mem (i := 128) rfl, av_mem (i := 6) rfl⟩
set_option maxRecDepth 100000 in
theorem av_lay4 : ∀ w ∈ u_ws RX4 TX4 2, w ∈ lw_tbl := av_sub [122, 124] rfl
set_option maxRecDepth 100000 in
theorem av_inst4 : Cond.instantiable RX4 2 ∈ lw_tbl ∧ Cond.initialized RX4 ∈ lw_tbl := ⟨av_mem (i := 114) rfl, av_mem (i := 5) rfl⟩
set_option maxRecDepth 100000 in
theorem av_lay5 : ∀ w ∈ u_ws RX5 TX5 6, w ∈ lw_tbl := av_sub [82, 84, 86, 88, 90, 92] rfl
set_option maxRecDepth 100000 in
theorem av_inst5 : Cond.instantiable RX5 6 ∈ lw_tbl ∧ Cond.initialized RX5 ∈ lw_tbl := ⟨av_mem (i := 60) rfl, av_mem (i := 3) rfl⟩
set_option maxRecDepth 100000 in
theorem av_lay6 : ∀ w ∈ u_ws RX6 TX6 7, w ∈ lw_tbl := av_sub [43, 45, 47, 49, 51, 53, 55] rfl
set_option maxRecDepth 100000 in
theorem av_inst6 : Cond.instantiable RX6 7 ∈ lw_tbl ∧ Cond.initialized RX6 ∈ lw_tbl := ⟨av_mem (i := 27) rfl, av_mem (i := 2) rfl⟩
set_option maxRecDepth 100000 in
theorem av_lay7 : ∀ w ∈ u_ws RX7 TX7 9, w ∈ lw_tbl := av_sub [294, 296, 298, 300, 302, 304, 306, 308, 310] rfl
set_option maxRecDepth 100000 in
theorem av_inst7 : Cond.instantiable RX7 9 ∈ lw_tbl ∧ Cond.initialized RX7 ∈ lw_tbl := ⟨av_mem (i := 19) rfl, av_mem (i := 1) rfl⟩
set_option maxRecDepth 100000 in
theorem av_lay8 : ∀ w ∈ u_ws RX8 TX8 63, w ∈ lw_tbl := av_sub [977, 979, 981, 983, 985, 987, 989, 991, 993, 995, 997, 999, 1001, 1003, 1005, 1007, 1009, 1011, 1013, 1015, 1017, 1019, 1021, 1023, 1025, 1027, 1029, 1031, 1033, 1035, 1037, 1039, 1041, 1043, 1045, 1047, 1049, 1051, 1053, 1055, 1057, 1059, 1061, 1063, 1065, 1067, 1069, 1071, 1073, 1075, 1077, 1079, 1081, 1083, 1085, 1087, 1089, 1091, 1093, 1095, 1097, 1099, 1101] rfl
set_option maxRecDepth 100000 in
theorem av_inst8 : Cond.instantiable RX8 63 ∈ lw_tbl ∧ Cond.initialized RX8 ∈ lw_tbl := ⟨av_mem (i := 909) rfl, av_mem (i := 12) rfl⟩
theorem av_lay : ∀ ci, ci < 9 → ∀ w ∈ u_ws (av_cn ci) (av_T ci) (av_N ci), w ∈ lw_tbl := fun ci h => match ci, h with
  | 0, _ => av_lay0
  | 1, _ => av_lay1
  | 2, _ => av_lay2
  | 3, _ => av_lay3
  | 4, _ => av_lay4
  | 5, _ => av_lay5
  | 6, _ => av_lay6
  | 7, _ => av_lay7
  | 8, _ => av_lay8
  | k + 9, h => absurd h (by omega)
theorem av_inst : ∀ ci, ci < 9 → Cond.instantiable (av_cn ci) (av_N ci) ∈ lw_tbl ∧ Cond.initialized (av_cn ci) ∈ lw_tbl := fun ci h => match ci, h with
  | 0, _ => av_inst0
  | 1, _ => av_inst1
  | 2, _ => av_inst2
  | 3, _ => av_inst3
  | 4, _ => av_inst4
  | 5, _ => av_inst5
  | 6, _ => av_inst6
  | 7, _ => av_inst7
  | 8, _ => av_inst8
  | k + 9, h => absurd h (by omega)
theorem av_nm : ∀ ci, ci < 9 → ∀ a, a < av_N ci → ∀ b, b < av_N ci → a ≠ b → ((av_T ci) a).2.1 ≠ ((av_T ci) b).2.1 := fun ci h => match ci, h with
  | 0, _ => nmX0
  | 1, _ => nmX1
  | 2, _ => nmX2
  | 3, _ => nmX3
  | 4, _ => nmX4
  | 5, _ => nmX5
  | 6, _ => nmX6
  | 7, _ => nmX7
  | 8, _ => nmX8
  | k + 9, h => absurd h (by omega)
theorem av_tyok : ∀ ci, ci < 9 → ∀ k, k < av_N ci → parseFieldDescriptor ((av_T ci) k).2.2.1 = some (av_ty ci k) := fun ci h => match ci, h with
  | 0, _ => tyX0_ok
  | 1, _ => tyX1_ok
  | 2, _ => tyX2_ok
  | 3, _ => tyX3_ok
  | 4, _ => tyX4_ok
  | 5, _ => tyX5_ok
  | 6, _ => tyX6_ok
  | 7, _ => tyX7_ok
  | 8, _ => tyX8_ok
  | k + 9, h => absurd h (by omega)
end
section
/-! THE SMALL MACHINE: the class's and the reference's bytecode over plain numbers. A value: an int, a long, a reference (a cell's number from the law's start on; none: null), a constant (a literal's place; 100 the script, 101 the plain law).
A heap: how many cells, how many slots so far, what each cell is (its kind: 0 to 8 an object of that row of av_cn; 20 ints, 21 bytes, 22 booleans; 30, 31, 32 references; its length), arrays of numbers, number fields, reference fields, arrays of references, the script. -/
abbrev av_V : Type := Int ⊕ Int ⊕ Option Nat ⊕ Nat
abbrev av_L : Type := List (Option av_V)
abbrev av_H : Type := Nat × Nat × (Nat → Nat × Nat) × (Nat → Nat → Int) × (Nat → Nat → Int) × (Nat → Nat → Option Nat) × (Nat → Nat → Option Nat) × (Nat × (Nat → Int))
abbrev av_E : Type := Instr × Nat × Nat × Nat × Nat × Int
def av_w (x : Int) : Int := Int.bmod x 4294967296
def av_wl (x : Int) : Int := Int.bmod x 18446744073709551616
def av_u2 {α : Type} (f : Nat → Nat → α) (i j : Nat) (v : α) : Nat → Nat → α := fun a b => if a = i ∧ b = j then v else f a b
def av_u1 {α : Type} (f : Nat → α) (i : Nat) (v : α) : Nat → α := fun a => if a = i then v else f a
def av_cat : av_V → Nat
  | .inr (.inl _) => 2
  | _ => 1
def av_cmp (c : Jvm.ClassFile.Cond) (x y : Int) : Bool := match c with
  | .eq => decide (x = y)
  | .ne => decide (¬ x = y)
  | .lt => decide (x < y)
  | .ge => decide (y ≤ x)
  | .gt => decide (y < x)
  | .le => decide (x ≤ y)
def av_and (x y : Int) : Int := (Int32.ofInt x &&& Int32.ofInt y).toInt
def av_or (x y : Int) : Int := (Int32.ofInt x ||| Int32.ofInt y).toInt
def av_shl (x y : Int) : Int := (Int32.ofInt x <<< (Int32.ofInt y &&& 31)).toInt
def av_shr (x y : Int) : Int := (Int32.ofInt x >>> (Int32.ofInt y &&& 31)).toInt
def av_ushr (x y : Int) : Int := ((Int32.ofInt x).toUInt32 >>> ((Int32.ofInt y).toUInt32 &&& Int32.toUInt32 31)).toInt32.toInt
def av_b (x : Int) : Int := Int.bmod x 256
/-- the plain law's cells -/
def av_plain (k : Nat) : Int := [1, 1, 1, 1, 1, 1, 0, -1, -1, 0, 0, 0, 0, 0].getD k 0
def av_lg : Option av_V → Bool
  | some (.inr (.inl _)) => true
  | _ => false
def av_sto (lv : av_L) (i : Nat) (v : av_V) : Option av_L := match i with
  | 0 => if 0 < lv.length then some (lv.set 0 (some v)) else none
  | j + 1 => if j + 1 < lv.length then (if av_lg ((lv[j]?).join) then none else some (lv.set (j + 1) (some v))) else none
abbrev av_S : Type := Nat × av_L × List av_V × av_H
def av_bin (f : Int → Int → Int) (pc : Nat) (lv : av_L) (st : List av_V) (h : av_H) : Option av_S := match st with
  | .inl y :: .inl x :: r => some (pc + 1, lv, .inl (f x y) :: r, h)
  | _ => none
/-- a number that is loaded, a reference that is loaded, a long that is loaded -/
def av_ldi (i n pc : Nat) (lv : av_L) (st : List av_V) (h : av_H) : Option av_S := match (lv[i]?).join with
  | some (.inl x) => some (pc + n, lv, .inl x :: st, h)
  | _ => none
def av_lda (i n pc : Nat) (lv : av_L) (st : List av_V) (h : av_H) : Option av_S := match (lv[i]?).join with
  | some (.inr (.inr v)) => some (pc + n, lv, .inr (.inr v) :: st, h)
  | _ => none
def av_ldl (i n pc : Nat) (lv : av_L) (st : List av_V) (h : av_H) : Option av_S := match (lv[i]?).join with
  | some (.inr (.inl x)) => some (pc + n, lv, .inr (.inl x) :: st, h)
  | _ => none
def av_sti (i n pc : Nat) (lv : av_L) (st : List av_V) (h : av_H) : Option av_S := match st with
  | .inl x :: r => (av_sto lv i (.inl x)).map (fun lv' => (pc + n, lv', r, h))
  | _ => none
def av_sta (i n pc : Nat) (lv : av_L) (st : List av_V) (h : av_H) : Option av_S := match st with
  | .inr (.inr v) :: r => (av_sto lv i (.inr (.inr v))).map (fun lv' => (pc + n, lv', r, h))
  | _ => none
def av_iinc (i : Nat) (n : Int) (pc : Nat) (lv : av_L) (st : List av_V) (h : av_H) : Option av_S := match (lv[i]?).join with
  | some (.inl x) => (av_sto lv i (.inl (x + n))).map (fun lv' => (pc + 3, lv', st, h))
  | _ => none
def av_getf (e : av_E) (pc : Nat) (lv : av_L) (st : List av_V) (h : av_H) : Option av_S := match st with
  | .inr (.inr (.inl (some o))) :: r =>
    if o < h.1 ∧ (h.2.2.1 o).1 = e.2.2.1 then
      some (pc + 3, lv, (match e.2.2.2.2.1 with
        | 1 => .inr (.inl (h.2.2.2.2.1 o e.2.2.2.1))
        | 2 => .inr (.inr (.inl (h.2.2.2.2.2.1 o e.2.2.2.1)))
        | _ => .inl (h.2.2.2.2.1 o e.2.2.2.1)) :: r, h)
    else none
  | _ => none
def av_putf (e : av_E) (pc : Nat) (lv : av_L) (st : List av_V) (h : av_H) : Option av_S := match e.2.2.2.2.1, st with
  | 0, .inl x :: .inr (.inr (.inl (some o))) :: r => if o < h.1 ∧ (h.2.2.1 o).1 = e.2.2.1 then some (pc + 3, lv, r, (h.1, h.2.1, h.2.2.1, h.2.2.2.1, av_u2 h.2.2.2.2.1 o e.2.2.2.1 x, h.2.2.2.2.2)) else none
  | 1, .inr (.inl x) :: .inr (.inr (.inl (some o))) :: r => if o < h.1 ∧ (h.2.2.1 o).1 = e.2.2.1 then some (pc + 3, lv, r, (h.1, h.2.1, h.2.2.1, h.2.2.2.1, av_u2 h.2.2.2.2.1 o e.2.2.2.1 x, h.2.2.2.2.2)) else none
  | 2, .inr (.inr (.inl v)) :: .inr (.inr (.inl (some o))) :: r => if o < h.1 ∧ (h.2.2.1 o).1 = e.2.2.1 then some (pc + 3, lv, r, (h.1, h.2.1, h.2.2.1, h.2.2.2.1, h.2.2.2.2.1, av_u2 h.2.2.2.2.2.1 o e.2.2.2.1 v, h.2.2.2.2.2.2)) else none
  | 3, .inl x :: .inr (.inr (.inl (some o))) :: r => if (o < h.1 ∧ (h.2.2.1 o).1 = e.2.2.1) ∧ (x = 0 ∨ x = 1) then some (pc + 3, lv, r, (h.1, h.2.1, h.2.2.1, h.2.2.2.1, av_u2 h.2.2.2.2.1 o e.2.2.2.1 x, h.2.2.2.2.2)) else none
  | _, _ => none
/-- the place i lies in a row of n -/
def av_in (i : Int) (n : Nat) : Prop := 0 ≤ av_w i ∧ av_w i < n
def av_inB (i : Int) (n : Nat) : Bool := decide (0 ≤ av_w i) && decide (av_w i < n)
def av_ald (ks : List Nat) (pc : Nat) (lv : av_L) (st : List av_V) (h : av_H) : Option av_S := match st with
  | .inl i :: .inr (.inr (.inl (some o))) :: r => if (o < h.1 ∧ (h.2.2.1 o).1 ∈ ks) ∧ av_inB i (h.2.2.1 o).2 = true then some (pc + 1, lv, .inl (h.2.2.2.1 o (av_w i).toNat) :: r, h) else none
  | .inl i :: .inr (.inr (.inr 100)) :: r => if ks = [20] ∧ av_inB i h.2.2.2.2.2.2.2.1 = true then some (pc + 1, lv, .inl (h.2.2.2.2.2.2.2.2 (av_w i).toNat) :: r, h) else none
  | _ => none
/-- a reference may lie in the row o -/
def av_okR (h : av_H) (o : Nat) (v : Option Nat) : Bool := match v with
  | none => true
  | some q => decide (q < h.1 ∧ (h.2.2.1 q).1 = (if (h.2.2.1 o).1 = 30 then 1 else 5))
def av_aast (pc : Nat) (lv : av_L) (st : List av_V) (h : av_H) : Option av_S := match st with
  | .inr (.inr (.inl v)) :: .inl i :: .inr (.inr (.inl (some o))) :: r =>
    if (o < h.1 ∧ ((h.2.2.1 o).1 = 30 ∨ (h.2.2.1 o).1 = 31)) ∧ av_inB i (h.2.2.1 o).2 = true ∧ av_okR h o v = true then
      some (pc + 1, lv, r, (h.1, h.2.1, h.2.2.1, h.2.2.2.1, h.2.2.2.2.1, h.2.2.2.2.2.1, av_u2 h.2.2.2.2.2.2.1 o (av_w i).toNat v, h.2.2.2.2.2.2.2))
    else none
  | _ => none
def av_aald (pc : Nat) (lv : av_L) (st : List av_V) (h : av_H) : Option av_S := match st with
  | .inl i :: .inr (.inr (.inl (some o))) :: r => if (o < h.1 ∧ (h.2.2.1 o).1 ∈ [30, 31, 32]) ∧ av_inB i (h.2.2.1 o).2 = true then some (pc + 1, lv, .inr (.inr (.inl (h.2.2.2.2.2.2.1 o (av_w i).toNat))) :: r, h) else none
  | _ => none
def av_iast (pc : Nat) (lv : av_L) (st : List av_V) (h : av_H) : Option av_S := match st with
  | .inl x :: .inl i :: .inr (.inr (.inl (some o))) :: r => if (o < h.1 ∧ (h.2.2.1 o).1 = 20) ∧ av_inB i (h.2.2.1 o).2 = true then some (pc + 1, lv, r, (h.1, h.2.1, h.2.2.1, av_u2 h.2.2.2.1 o (av_w i).toNat x, h.2.2.2.2)) else none
  | _ => none
def av_bast (pc : Nat) (lv : av_L) (st : List av_V) (h : av_H) : Option av_S := match st with
  | .inl x :: .inl i :: .inr (.inr (.inl (some o))) :: r =>
    if (o < h.1 ∧ (h.2.2.1 o).1 = 21) ∧ av_inB i (h.2.2.1 o).2 = true then some (pc + 1, lv, r, (h.1, h.2.1, h.2.2.1, av_u2 h.2.2.2.1 o (av_w i).toNat (av_b x), h.2.2.2.2))
    else if (o < h.1 ∧ (h.2.2.1 o).1 = 22) ∧ av_inB i (h.2.2.1 o).2 = true ∧ (x = 0 ∨ x = 1) then some (pc + 1, lv, r, (h.1, h.2.1, h.2.2.1, av_u2 h.2.2.2.1 o (av_w i).toNat x, h.2.2.2.2))
    else none
  | _ => none
/-- a new row of numbers, of references; a new object -/
def av_newN (k n : Nat) (f : Nat → Int) (h : av_H) : av_H := (h.1 + 1, h.2.1 + n, av_u1 h.2.2.1 h.1 (k, n), av_u1 h.2.2.2.1 h.1 f, h.2.2.2.2)
def av_newR (k n : Nat) (h : av_H) : av_H := (h.1 + 1, h.2.1 + n, av_u1 h.2.2.1 h.1 (k, n), h.2.2.2.1, h.2.2.2.2.1, h.2.2.2.2.2.1, av_u1 h.2.2.2.2.2.2.1 h.1 (fun _ => none), h.2.2.2.2.2.2.2)
def av_newO (ci n : Nat) (h : av_H) : av_H := (h.1 + 1, h.2.1 + n, av_u1 h.2.2.1 h.1 (ci, 0), h.2.2.2.1, av_u1 h.2.2.2.2.1 h.1 (fun _ => 0), av_u1 h.2.2.2.2.2.1 h.1 (fun _ => none), h.2.2.2.2.2.2)
/-- n rows of k ints, and the row of them -/
def av_newM (n k : Nat) (h : av_H) : av_H := (h.1 + 1 + n, h.2.1 + n + n * k, (fun a => if a = h.1 then (32, n) else if h.1 < a ∧ a < h.1 + 1 + n then (20, k) else h.2.2.1 a), (fun a j => if h.1 < a ∧ a < h.1 + 1 + n then 0 else h.2.2.2.1 a j), h.2.2.2.2.1, h.2.2.2.2.2.1, av_u1 h.2.2.2.2.2.2.1 h.1 (fun i => if i < n then some (h.1 + 1 + i) else none), h.2.2.2.2.2.2.2)
def av_atk : ArrayType → Nat
  | .int => 20
  | .byte => 21
  | .boolean => 22
  | _ => 99
def av_newa (t : ArrayType) (pc : Nat) (lv : av_L) (st : List av_V) (h : av_H) : Option av_S := match st with
  | .inl n :: r => if av_atk t ≠ 99 ∧ 0 ≤ av_w n ∧ av_w n ≤ 100000 then some (pc + 2, lv, .inr (.inr (.inl (some h.1))) :: r, av_newN (av_atk t) (av_w n).toNat (fun _ => 0) h) else none
  | _ => none
def av_anew (k pc : Nat) (lv : av_L) (st : List av_V) (h : av_H) : Option av_S := match st with
  | .inl n :: r => if (k = 30 ∨ k = 31) ∧ 0 ≤ av_w n ∧ av_w n ≤ 100000 then some (pc + 3, lv, .inr (.inr (.inl (some h.1))) :: r, av_newR k (av_w n).toNat h) else none
  | _ => none
def av_mnew (pc : Nat) (lv : av_L) (st : List av_V) (h : av_H) : Option av_S := match st with
  | .inl k :: .inl n :: r => if (0 ≤ av_w n ∧ av_w n ≤ 1000) ∧ (0 ≤ av_w k ∧ av_w k ≤ 1000) then some (pc + 4, lv, .inr (.inr (.inl (some h.1))) :: r, av_newM (av_w n).toNat (av_w k).toNat h) else none
  | _ => none
def av_alen (pc : Nat) (lv : av_L) (st : List av_V) (h : av_H) : Option av_S := match st with
  | .inr (.inr (.inl (some o))) :: r => if o < h.1 ∧ (h.2.2.1 o).1 ∈ [20, 21, 22, 30, 31, 32] then some (pc + 1, lv, .inl ((h.2.2.1 o).2 : Int) :: r, h) else none
  | .inr (.inr (.inr 100)) :: r => some (pc + 1, lv, .inl (h.2.2.2.2.2.2.2.1 : Int) :: r, h)
  | _ => none
/-- n places of f from sp on, laid over the row d from dp on -/
def av_cpy (A : Nat → Nat → Int) (d sp dp n : Nat) (f : Nat → Int) : Nat → Nat → Int := fun a j => if a = d ∧ dp ≤ j ∧ j < dp + n then f (sp + (j - dp)) else A a j
/-- the literals' bytes, by their places -/
def av_lits : List (List Int) := [
  [111, 102, 102, 101, 114, 32, 97, 115, 107, 32, 121, 101, 115, 32, 110, 111, 32, 98, 97, 99, 107, 32, 100, 101, 101, 100, 32, 115, 101, 110, 100],
  [97, 32, 98, 32, 99],
  [112, 114, 105, 99, 101, 32, 109, 117, 99, 104, 32, 100, 97, 121, 32, 112, 111, 114, 116, 32, 99, 111, 117, 114, 116],
  [104, 111, 108, 100],
  [103, 105, 118, 101, 110],
  [98, 117, 116],
  [112, 111, 115, 116, 32, 119, 105, 114, 101, 32, 109, 111, 117, 116, 104, 32, 100, 101, 101, 100],
  [97, 116],
  [116, 111],
  [97, 102, 116, 101, 114],
  [114, 101, 97, 100],
  [108, 111, 115, 116],
  [121, 101, 115, 32, 111, 102, 102, 101, 114, 32, 98, 97, 99, 107, 32, 110, 111, 32, 104, 111, 108, 100, 32, 108, 97, 112, 115, 101, 32, 115, 105, 108, 101, 110, 99, 101, 32, 98, 117, 116, 32, 102, 111, 114, 109, 32, 100, 101, 101, 100, 32, 114, 105, 115, 107],
  [112, 111, 115, 116, 32, 119, 105, 114, 101, 32, 109, 111, 117, 116, 104, 32, 97, 108, 108],
  [115, 101, 110, 116, 32, 99, 111, 109, 101, 32, 114, 101, 97, 100],
  [102, 114, 101, 101, 32, 98, 105, 110, 100, 115],
  [110, 111, 32, 115, 109, 97, 108, 108],
  [102, 105, 114, 115, 116, 32, 108, 97, 115, 116, 32, 110, 111, 110, 101],
  [110, 111, 110, 101, 32, 121, 101, 115],
  [98, 97, 114, 103, 97, 105, 110, 32, 115, 101, 110, 116, 32, 99, 111, 109, 101]]
def av_lit (k : Nat) : List Int := av_lits.getD k []
/-- what the library's own members do (1000 Object's constructor, 1001 max, 1002 min, 1003 arraycopy, 1004 clone of ints, 1005 length, 1006 charAt of a literal) -/
def av_lib (a pc : Nat) (lv : av_L) (st : List av_V) (h : av_H) : Option av_S := match a, st with
  | 1000, .inr (.inr (.inl (some _))) :: r => if (r.map av_cat).sum ≤ 8 then some (pc + 3, lv, r, h) else none
  | 1001, .inl y :: .inl x :: r => if (r.map av_cat).sum ≤ 8 then some (pc + 3, lv, .inl (if av_w x < av_w y then y else x) :: r, h) else none
  | 1002, .inl y :: .inl x :: r => if (r.map av_cat).sum ≤ 8 then some (pc + 3, lv, .inl (if av_w y < av_w x then y else x) :: r, h) else none
  | 1003, .inl n :: .inl dp :: .inr (.inr (.inl (some d))) :: .inl sp :: .inr (.inr (.inl (some q))) :: r =>
    if (r.map av_cat).sum ≤ 8 ∧ (d < h.1 ∧ (h.2.2.1 d).1 = 20) ∧ (q < h.1 ∧ (h.2.2.1 q).1 = 20) ∧ (0 ≤ av_w n ∧ 0 ≤ av_w dp ∧ 0 ≤ av_w sp) ∧ av_w sp + av_w n ≤ (h.2.2.1 q).2 ∧ av_w dp + av_w n ≤ (h.2.2.1 d).2 then
      some (pc + 3, lv, r, (h.1, h.2.1, h.2.2.1, av_cpy h.2.2.2.1 d (av_w sp).toNat (av_w dp).toNat (av_w n).toNat (h.2.2.2.1 q), h.2.2.2.2)) else none
  | 1003, .inl n :: .inl dp :: .inr (.inr (.inl (some d))) :: .inl sp :: .inr (.inr (.inr 101)) :: r =>
    if (r.map av_cat).sum ≤ 8 ∧ (d < h.1 ∧ (h.2.2.1 d).1 = 20) ∧ (0 ≤ av_w n ∧ 0 ≤ av_w dp ∧ 0 ≤ av_w sp) ∧ av_w sp + av_w n ≤ 14 ∧ av_w dp + av_w n ≤ (h.2.2.1 d).2 then
      some (pc + 3, lv, r, (h.1, h.2.1, h.2.2.1, av_cpy h.2.2.2.1 d (av_w sp).toNat (av_w dp).toNat (av_w n).toNat av_plain, h.2.2.2.2)) else none
  | 1004, .inr (.inr (.inl (some o))) :: r =>
    if (r.map av_cat).sum ≤ 8 ∧ (o < h.1 ∧ (h.2.2.1 o).1 = 20) then some (pc + 3, lv, .inr (.inr (.inl (some h.1))) :: r, av_newN 20 (h.2.2.1 o).2 (h.2.2.2.1 o) h) else none
  | 1005, .inr (.inr (.inr k)) :: r => if (r.map av_cat).sum ≤ 8 ∧ k < 20 then some (pc + 3, lv, .inl ((av_lit k).length : Int) :: r, h) else none
  | 1006, .inl i :: .inr (.inr (.inr k)) :: r => if (r.map av_cat).sum ≤ 8 ∧ k < 20 ∧ av_inB i (av_lit k).length = true then some (pc + 3, lv, .inl ((av_lit k).getD (av_w i).toNat 0) :: r, h) else none
  | _, _ => none
def av_stp (e : av_E) (pc : Nat) (lv : av_L) (st : List av_V) (h : av_H) : Option av_S := match e.1 with
  | .iconst n => some (pc + 1, lv, .inl n :: st, h)
  | .bipush n => some (pc + 2, lv, .inl n :: st, h)
  | .sipush n => some (pc + 3, lv, .inl n :: st, h)
  | .ldc _ => if e.2.2.1 = 0 then some (pc + 2, lv, .inl e.2.2.2.2.2 :: st, h) else some (pc + 2, lv, .inr (.inr (.inr e.2.2.2.1)) :: st, h)
  | .ldc_w _ => some (pc + 3, lv, .inl e.2.2.2.2.2 :: st, h)
  | .ldc2_w _ => some (pc + 3, lv, .inr (.inl e.2.2.2.2.2) :: st, h)
  | .lconst n => some (pc + 1, lv, .inr (.inl (n.val : Int)) :: st, h)
  | .aconst_null => some (pc + 1, lv, .inr (.inr (.inl none)) :: st, h)
  | .iload_n i => av_ldi i.val 1 pc lv st h
  | .iload i => av_ldi i 2 pc lv st h
  | .aload_n i => av_lda i.val 1 pc lv st h
  | .aload i => av_lda i 2 pc lv st h
  | .lload_n i => av_ldl i.val 1 pc lv st h
  | .lload i => av_ldl i 2 pc lv st h
  | .istore_n i => av_sti i.val 1 pc lv st h
  | .istore i => av_sti i 2 pc lv st h
  | .astore_n i => av_sta i.val 1 pc lv st h
  | .astore i => av_sta i 2 pc lv st h
  | .iinc i n => av_iinc i n pc lv st h
  | .iadd => av_bin (fun x y => x + y) pc lv st h
  | .isub => av_bin (fun x y => x - y) pc lv st h
  | .imul => av_bin (fun x y => x * y) pc lv st h
  | .iand => av_bin av_and pc lv st h
  | .ior => av_bin av_or pc lv st h
  | .ishl => av_bin av_shl pc lv st h
  | .ishr => av_bin av_shr pc lv st h
  | .iushr => av_bin av_ushr pc lv st h
  | .idiv => (match st with
    | .inl y :: .inl x :: r => if av_w y = 0 then none else some (pc + 1, lv, .inl ((av_w x).tdiv (av_w y)) :: r, h)
    | _ => none)
  | .irem => (match st with
    | .inl y :: .inl x :: r => if av_w y = 0 then none else some (pc + 1, lv, .inl ((av_w x).tmod (av_w y)) :: r, h)
    | _ => none)
  | .ladd => (match st with
    | .inr (.inl y) :: .inr (.inl x) :: r => some (pc + 1, lv, .inr (.inl (x + y)) :: r, h)
    | _ => none)
  | .lmul => (match st with
    | .inr (.inl y) :: .inr (.inl x) :: r => some (pc + 1, lv, .inr (.inl (x * y)) :: r, h)
    | _ => none)
  | .lcmp => (match st with
    | .inr (.inl y) :: .inr (.inl x) :: r => some (pc + 1, lv, .inl (if av_wl y < av_wl x then 1 else if av_wl x = av_wl y then 0 else -1) :: r, h)
    | _ => none)
  | .i2l => (match st with
    | .inl x :: r => some (pc + 1, lv, .inr (.inl (av_w x)) :: r, h)
    | _ => none)
  | .l2i => (match st with
    | .inr (.inl x) :: r => some (pc + 1, lv, .inl x :: r, h)
    | _ => none)
  | .i2b => (match st with
    | .inl x :: r => some (pc + 1, lv, .inl (av_b x) :: r, h)
    | _ => none)
  | .dup => (match st with
    | v :: r => if av_cat v = 1 then some (pc + 1, lv, v :: v :: r, h) else none
    | _ => none)
  | .pop => (match st with
    | v :: r => if av_cat v = 1 then some (pc + 1, lv, r, h) else none
    | _ => none)
  | .dup2 => (match st with
    | v :: u :: r => if av_cat v = 1 ∧ av_cat u = 1 then some (pc + 1, lv, v :: u :: v :: u :: r, h) else none
    | _ => none)
  | .goto _ => some (e.2.2.1, lv, st, h)
  | .ifCond c _ => (match st with
    | .inl x :: r => some (if av_cmp c (av_w x) 0 = true then e.2.2.1 else pc + 3, lv, r, h)
    | _ => none)
  | .if_icmp c _ => (match st with
    | .inl y :: .inl x :: r => some (if av_cmp c (av_w x) (av_w y) = true then e.2.2.1 else pc + 3, lv, r, h)
    | _ => none)
  | .ifnull _ => (match st with
    | .inr (.inr (.inl v)) :: r => some (match v with
      | none => e.2.2.1
      | some _ => pc + 3, lv, r, h)
    | _ => none)
  | .ifnonnull _ => (match st with
    | .inr (.inr (.inl v)) :: r => some (match v with
      | none => pc + 3
      | some _ => e.2.2.1, lv, r, h)
    | _ => none)
  | .tableswitch d lo hi offs => (match st with
    | .inl x :: r => some ((pc + (if av_w x < lo ∨ hi < av_w x then d else offs.toList.getD (av_w x - lo).toNat 0)).toNat, lv, r, h)
    | _ => none)
  | .lookupswitch d ps => (match st with
    | .inl x :: r => some ((pc + Op.lookupswitch.offset ps.toList d (av_w x)).toNat, lv, r, h)
    | _ => none)
  | .getfield _ => av_getf e pc lv st h
  | .putfield _ => av_putf e pc lv st h
  | .getstatic _ => some (pc + 3, lv, .inr (.inr (.inr 101)) :: st, h)
  | .iaload => av_ald [20] pc lv st h
  | .baload => av_ald [21, 22] pc lv st h
  | .aaload => av_aald pc lv st h
  | .iastore => av_iast pc lv st h
  | .bastore => av_bast pc lv st h
  | .aastore => av_aast pc lv st h
  | .arraylength => av_alen pc lv st h
  | .newarray t => av_newa t pc lv st h
  | .anewarray _ => av_anew e.2.2.1 pc lv st h
  | .multianewarray _ _ => av_mnew pc lv st h
  | .new _ => some (pc + 3, lv, .inr (.inr (.inl (some h.1))) :: st, av_newO e.2.2.1 (av_N e.2.2.1) h)
  | .checkcast _ => (match st with
    | .inr (.inr (.inl (some o))) :: r => if o < h.1 ∧ (h.2.2.1 o).1 = 20 then some (pc + 3, lv, .inr (.inr (.inl (some o))) :: r, h) else none
    | _ => none)
  | .invokevirtual _ => av_lib e.2.2.1 pc lv st h
  | .invokespecial _ => av_lib e.2.2.1 pc lv st h
  | .invokestatic _ => av_lib e.2.2.1 pc lv st h
  | _ => none
/-- 0 a step of its own, 1 a return, 2 a call -/
def av_kd (e : av_E) : Nat := match e.1 with
  | .ireturn => 1
  | .areturn => 1
  | .return_ => 1
  | .invokevirtual _ => if e.2.2.1 < 1000 then 2 else 0
  | .invokespecial _ => if e.2.2.1 < 1000 then 2 else 0
  | .invokestatic _ => if e.2.2.1 < 1000 then 2 else 0
  | _ => 0
def av_ret (e : av_E) (st : List av_V) (h : av_H) : Option (Option av_V × av_H) := match e.1, st with
  | .return_, [] => some (none, h)
  | .ireturn, [.inl x] => if e.2.2.1 = 0 ∨ x = 0 ∨ x = 1 then some (some (.inl x), h) else none
  | .areturn, [.inr (.inr (.inl v))] => some (some (.inr (.inr (.inl v))), h)
  | _, _ => none
/-- a call's values (the receiver first) and what is left below; b: how many arguments, c: 0 an object of the row k, 1 a constructor, 2 static -/
def av_pop (e : av_E) (st : List av_V) (h : av_H) : Option (List av_V × List av_V) :=
  if e.2.2.2.1 ≤ st.length then
    (match e.2.2.2.2.1, st.drop e.2.2.2.1 with
    | 2, r => if (r.map av_cat).sum ≤ 8 then some ((st.take e.2.2.2.1).reverse, r) else none
    | _, .inr (.inr (.inl (some o))) :: r => if (r.map av_cat).sum ≤ 8 ∧ o < h.1 ∧ ((h.2.2.1 o).1 : Int) = e.2.2.2.2.2 then some (.inr (.inr (.inl (some o))) :: (st.take e.2.2.2.1).reverse, r) else none
    | _, _ => none)
  else none
/-- a method's locals at its entry -/
def av_args : List av_V → av_L
  | [] => []
  | v :: vs => if av_cat v = 2 then some v :: none :: av_args vs else some v :: av_args vs
def av_ent (n : Nat) (vs : List av_V) : av_L := av_args vs ++ List.replicate (n - (av_args vs).length) none
/-- a program: of each method how many locals, and its code -/
abbrev av_P : Type := Nat → Option (Nat × List (Nat × av_E))
/-- fuel, the method's code, the place, locals, stack, heap: what comes back -/
def av_run (P : av_P) : Nat → List (Nat × av_E) → Nat → av_L → List av_V → av_H → Option (Option av_V × av_H)
  | 0, _, _, _, _, _ => none
  | n + 1, cd, pc, lv, st, h =>
    match cd.lookup pc with
    | none => none
    | some e =>
      match av_kd e with
      | 0 => (match av_stp e pc lv st h with
        | none => none
        | some (pc', lv', st', h') => av_run P n cd pc' lv' st' h')
      | 1 => av_ret e st h
      | _ => (match P e.2.2.1, av_pop e st h with
        | some M, some (vs, r) =>
          if (av_args vs).length ≤ M.1 then
            (match av_run P n M.2 0 (av_ent M.1 vs) [] h with
            | none => none
            | some (v, h') => av_run P n cd (pc + 3) lv (v.toList ++ r) h')
          else none
        | _, _ => none)
end
section
/-! HOW THE SMALL MACHINE STANDS TO THE MACHINE -/
def av_ev (z : Nat) (kr : Nat → Nat) : av_V → Value
  | .inl x => .int (Int32.ofInt x)
  | .inr (.inl x) => .long (Int64.ofInt x)
  | .inr (.inr (.inl r)) => va_rf (r.map (fun k => z + k))
  | .inr (.inr (.inr k)) => .ref (kr k)
theorem av_ev_cat (z : Nat) (kr : Nat → Nat) (v : av_V) : (av_ev z kr v).category = av_cat v := by
  rcases v with x | x | (_ | k) | k <;> rfl
def av_tg : FieldType → Nat
  | .long => 1
  | .object _ => 2
  | .array _ => 2
  | .boolean => 3
  | _ => 0
def av_fv (z : Nat) (h : av_H) (ty : FieldType) (o k : Nat) : Value := match av_tg ty with
  | 1 => .long (Int64.ofInt (h.2.2.2.2.1 o k))
  | 2 => va_rf ((h.2.2.2.2.2.1 o k).map (fun k => z + k))
  | _ => .int (Int32.ofInt (h.2.2.2.2.1 o k))
def av_at (z : Nat) (D : va_G) (TY : Nat → ClassId) (h : av_H) (k : Nat) (H : Heap) : Prop :=
  if (h.2.2.1 k).1 < 9 then t_OB (z + k) (D.1 (h.2.2.1 k).1) (av_N (h.2.2.1 k).1) (D.2 (h.2.2.1 k).1) H (fun j => av_fv z h (av_ty (h.2.2.1 k).1 j) k j)
  else if (h.2.2.1 k).1 < 30 then H[z + k]? = some (arrV (TY (h.2.2.1 k).1) (h.2.2.1 k).2 (fun j => .int (Int32.ofInt (h.2.2.2.1 k j))))
  else H[z + k]? = some (arrV (TY (h.2.2.1 k).1) (h.2.2.1 k).2 (fun j => va_rf ((h.2.2.2.2.2.2.1 k j).map (fun k => z + k))))
def av_R (s0 : State) (D : va_G) (TY : Nat → ClassId) (sc : Nat × (Nat → Int)) (h : av_H) (H : Heap) : Prop :=
  H.size = s0.heap.size + h.1 ∧ (∀ q : Nat, q < s0.heap.size → H[q]? = s0.heap[q]?) ∧ h.2.2.2.2.2.2.2 = sc ∧ ∀ k : Nat, k < h.1 → av_at s0.heap.size D TY h k H
def av_ft : Nat → FieldType := fun k => match k with
  | 20 => .int
  | 21 => .byte
  | 22 => .boolean
  | 30 => .object RX1
  | 31 => .object RX5
  | _ => .array .int
/-- what holds of the start: the tables' words, the rows of objects, of arrays -/
def av_Z (a0 : Array Value) (s0 : State) (D : va_G) (TY : Nat → ClassId) : Prop :=
  (∀ w ∈ lw_tbl, w.before a0 s0 = true) ∧ (∀ ci, ci < 9 → u_Kn s0 (av_cn ci) (av_T ci) (av_N ci) (D.1 ci) (D.2 ci)) ∧ ∀ k ∈ [20, 21, 22, 30, 31, 32], ArrOfT s0 (TY k) (av_ft k) ∧ va_RA s0 (TY k) (av_ft k)
def av_Lr (z : Nat) (kr : Nat → Nat) (ls : Array Slot) (nL : Nat) (lv : av_L) : Prop :=
  ls.size = nL ∧ lv.length = nL ∧ lv_wf ls ∧ ∀ (i : Nat) (v : av_V), lv[i]? = some (some v) → ls[i]? = some (.val (av_ev z kr v))
def av_lst (z : Nat) (kr : Nat → Nat) (lv : av_L) : List (Nat × Value) := (List.range lv.length).filterMap (fun i => ((lv[i]?).join).map (fun v => (i, av_ev z kr v)))
theorem av_lst_mem {z : Nat} {kr : Nat → Nat} {lv : av_L} {q : Nat × Value} : q ∈ av_lst z kr lv ↔ ∃ v, lv[q.1]? = some (some v) ∧ q.2 = av_ev z kr v := by
  unfold av_lst
  rw [List.mem_filterMap]
  constructor
  · rintro ⟨i, hi, h⟩
    rw [Option.map_eq_some_iff] at h
    obtain ⟨v, h1, h2⟩ := h
    subst h2
    refine ⟨v, ?_, rfl⟩
    rw [Option.join_eq_some_iff] at h1
    exact h1
  · rintro ⟨v, h1, h2⟩
    refine ⟨q.1, List.mem_range.mpr (List.getElem?_eq_some_iff.mp h1).1, ?_⟩
    rw [h1]
    simp [h2.symm]
theorem av_toHas {z : Nat} {kr : Nat → Nat} {ls : Array Slot} {nL : Nat} {lv : av_L} (h : av_Lr z kr ls nL lv) : lv_has ls nL (av_lst z kr lv) := by
  refine ⟨h.1, h.2.2.1, fun q hq => ?_⟩
  obtain ⟨v, h1, h2⟩ := av_lst_mem.mp hq
  rw [h2]
  exact h.2.2.2 _ _ h1
theorem av_sto_eq {lv lv' : av_L} {i : Nat} {v : av_V} (h : av_sto lv i v = some lv') : i < lv.length ∧ lv' = lv.set i (some v) ∧ ∀ (j : Nat) (u : av_V), j + 1 = i → lv[j]? = some (some u) → av_cat u = 1 := by
  cases i with
  | zero =>
    simp only [av_sto] at h
    split at h
    · next h0 => exact ⟨h0, (Option.some.inj h).symm, fun j u hj => by omega⟩
    · cases h
  | succ j =>
    simp only [av_sto] at h
    split at h
    · next h0 =>
      split at h
      · cases h
      · next h1 =>
        refine ⟨h0, (Option.some.inj h).symm, fun j' u hj hu => ?_⟩
        have : j' = j := by omega
        subst this
        rw [hu] at h1
        rcases u with x | x | (_ | k) | k
        · rfl
        · exact absurd rfl h1
        · rfl
        · rfl
        · rfl
    · cases h
theorem av_ofHas {z : Nat} {kr : Nat → Nat} {ls : Array Slot} {nL : Nat} {lv lv' : av_L} {i : Nat} {v : av_V} (hL : lv.length = nL) (hs : av_sto lv i v = some lv')
    (h : lv_has ls nL ((i, av_ev z kr v) :: (av_lst z kr lv).filter (fun q => !(q.1 == i) && !(q.1 + 1 == i && q.2.category == 2)))) : av_Lr z kr ls nL lv' := by
  obtain ⟨h1, h2, h3⟩ := av_sto_eq hs
  subst h2
  refine ⟨h.1, by rw [List.length_set]; exact hL, h.2.1, fun j u hj => ?_⟩
  by_cases e : j = i
  · subst e
    rw [List.getElem?_set_self h1] at hj
    cases hj
    exact h.2.2 (j, av_ev z kr v) List.mem_cons_self
  · rw [List.getElem?_set_ne (Ne.symm e)] at hj
    refine h.2.2 (j, av_ev z kr u) (List.mem_cons_of_mem _ (List.mem_filter.mpr ⟨av_lst_mem.mpr ⟨u, hj, rfl⟩, ?_⟩))
    have e2 : ¬ (j + 1 = i ∧ (av_ev z kr u).category = 2) := by
      rintro ⟨q1, q2⟩
      rw [av_ev_cat, h3 j u q1 hj] at q2
      cases q2
    simp only [Bool.and_eq_true, Bool.not_eq_true', beq_eq_false_iff_ne, ne_eq, Bool.and_eq_false_iff]
    refine ⟨e, ?_⟩
    by_cases q1 : j + 1 = i
    · exact Or.inr (fun q2 => e2 ⟨q1, q2⟩)
    · exact Or.inl q1
-- numbers
theorem av_w_eq (x : Int) : (Int32.ofInt x).toInt = av_w x := by
  rw [Int32.toInt_ofInt]; rfl
theorem av_wl_eq (x : Int) : (Int64.ofInt x).toInt = av_wl x := by
  rw [Int64.toInt_ofInt]; rfl
theorem av_of_toInt (x : Int32) : Int32.ofInt x.toInt = x := Int32.ofInt_toInt x
theorem av_lt (x y : Int) : Int32.ofInt x < Int32.ofInt y ↔ av_w x < av_w y := by
  rw [Int32.lt_iff_toInt_lt, av_w_eq, av_w_eq]
theorem av_le (x y : Int) : Int32.ofInt x ≤ Int32.ofInt y ↔ av_w x ≤ av_w y := by
  rw [Int32.le_iff_toInt_le, av_w_eq, av_w_eq]
theorem av_eq (x y : Int) : Int32.ofInt x = Int32.ofInt y ↔ av_w x = av_w y := by
  rw [← Int32.toInt_inj, av_w_eq, av_w_eq]
theorem av_lt0 (x : Int) : Int32.ofInt x < 0 ↔ av_w x < 0 := by
  have h := av_lt x 0
  rw [show av_w 0 = 0 from rfl, show Int32.ofInt 0 = 0 from rfl] at h
  exact h
theorem av_nat (x : Int) : (Int32.ofInt x).toNatClampNeg = (av_w x).toNat := by
  show (Int32.ofInt x).toInt.toNat = _
  rw [av_w_eq]
theorem av_inP {i : Int} {n : Nat} (h : av_inB i n = true) : ¬ (Int32.ofInt i < 0 ∨ n ≤ (Int32.ofInt i).toNatClampNeg) ∧ (av_w i).toNat < n := by
  simp only [av_inB, Bool.and_eq_true, decide_eq_true_eq] at h
  rw [av_lt0, av_nat]
  omega
theorem av_ofw (x : Int) : Int32.ofInt (av_w x) = Int32.ofInt x := by
  rw [← av_w_eq, Int32.ofInt_toInt]
theorem av_tdiv (x y : Int) : Int32.ofInt ((av_w x).tdiv (av_w y)) = Int32.ofInt x / Int32.ofInt y := by
  rw [← Int32.toInt_inj, Int32.toInt_div, Int32.toInt_ofInt, av_w_eq, av_w_eq]
theorem av_tmod (x y : Int) : Int32.ofInt ((av_w x).tmod (av_w y)) = Int32.ofInt x - Int32.ofInt x / Int32.ofInt y * Int32.ofInt y := by
  rw [← av_tdiv, Int.tmod_def, Int32.ofInt_sub, Int32.ofInt_mul, av_ofw, av_ofw, Int32.mul_comm]
theorem av_byte (x : Int) : Int32.ofInt (av_b x) = (Int32.ofInt x).toInt8.toInt32 := by
  rw [← Int32.toInt_inj]
  simp only [av_b, Int32.toInt_ofInt, Int8.toInt_toInt32, Int32.toInt_toInt8]
  have h1 := Int.le_bmod (x := x) (m := 256) (by omega)
  have h2 := Int.bmod_lt (x := x) (m := 256) (by omega)
  show (x.bmod 256).bmod 4294967296 = (x.bmod 4294967296).bmod 256
  rw [Int.bmod_eq_of_le (n := x.bmod 256) (by omega) (by omega), Int.bmod_bmod_of_dvd (by omega)]
end
section
/-! ONE STEP OF THE SMALL MACHINE, A ROW OF THE KIT: what changes no cell -/
section AVS
variable {p : Program} {l : Launch} {e : Env} {R : Room} {s : State} {m : MethodId} {args : Array Value} {below : List Frame} {meth : Method} {c : Code} {Q : State → Prop}
variable {a0 : Array Value} {s0 : State} {D : va_G} {TY : Nat → ClassId} {kr : Nat → Nat} {sc : Nat × (Nat → Int)} {own nL : Nat} {cc : ByteArray} {ini : Bool} {h0 hf h h' : av_H} {pc pc' : Nat} {lv lv' : av_L} {st st' : List av_V}
/-- from every state of the machine that stands so to this state of the small one, Q is reached -/
def av_W (p : Program) (l : Launch) (e : Env) (R : Room) (s : State) (m : MethodId) (args : Array Value) (below : List Frame) (meth : Method) (c : Code) (Q : State → Prop) (s0 : State) (D : va_G) (TY : Nat → ClassId) (kr : Nat → Nat) (sc : Nat × (Nat → Int)) (nL : Nat) (h0 : av_H) (pc : Nat) (lv : av_L) (st : List av_V) (h : av_H) : Prop :=
  ∀ (H : Heap) (locs : List Loc) (ls : Array Slot), av_R s0 D TY sc h H → (∀ q ∈ locs, s0.heap.size ≤ q.base) → av_Lr s0.heap.size kr ls nL lv → h0.1 ≤ h.1 → h0.2.1 ≤ h.2.1 →
    W p l e R s m args below meth c H locs (h.1 - h0.1) (h.2.1 - h0.2.1) Q (F0 m pc ls (st.map (av_ev s0.heap.size kr)))
/-- what a method's body knows -/
def av_Cx (p : Program) (R : Room) (s : State) (m : MethodId) (meth : Method) (c : Code) (a0 : Array Value) (s0 : State) (D : va_G) (TY : Nat → ClassId) (own nL : Nat) (cc : ByteArray) (ini : Bool) (h0 hf : av_H) : Prop :=
  p.tables.exec = Jvm.exec ∧ c.code = cc ∧ c.maxLocals = nL ∧ s.vm.findClass (av_cn own) = some m.cls ∧ s0.WarmedH s.vm ∧ av_Z a0 s0 D TY ∧ (ini = true → meth.name = "<init>") ∧ hf.1 - h0.1 ≤ R.cells ∧ hf.2.1 - h0.2.1 ≤ R.slots
theorem av_s_iconst {n : Int} (C : av_Cx p R s m meth c a0 s0 D TY own nL cc ini h0 hf) (hd : decode cc pc = .ok (.iconst n, 1)) (k : av_W p l e R s m args below meth c Q s0 D TY kr sc nL h0 (pc + 1) lv (.inl n :: st) h) : av_W p l e R s m args below meth c Q s0 D TY kr sc nL h0 pc lv st h :=
  fun H locs ls hR hl hL h1 h2 => lv_iconst C.1 C.2.1 hd rfl (k H locs ls hR hl hL h1 h2)
theorem av_s_bipush {n : Int} (C : av_Cx p R s m meth c a0 s0 D TY own nL cc ini h0 hf) (hd : decode cc pc = .ok (.bipush n, 2)) (hn : (Int8.ofInt n).toInt32 = Int32.ofInt n) (k : av_W p l e R s m args below meth c Q s0 D TY kr sc nL h0 (pc + 2) lv (.inl n :: st) h) : av_W p l e R s m args below meth c Q s0 D TY kr sc nL h0 pc lv st h :=
  fun H locs ls hR hl hL h1 h2 => lv_bipush C.1 C.2.1 hd hn (k H locs ls hR hl hL h1 h2)
theorem av_s_sipush {n : Int} (C : av_Cx p R s m meth c a0 s0 D TY own nL cc ini h0 hf) (hd : decode cc pc = .ok (.sipush n, 3)) (hn : (Int16.ofInt n).toInt32 = Int32.ofInt n) (k : av_W p l e R s m args below meth c Q s0 D TY kr sc nL h0 (pc + 3) lv (.inl n :: st) h) : av_W p l e R s m args below meth c Q s0 D TY kr sc nL h0 pc lv st h :=
  fun H locs ls hR hl hL h1 h2 => lv_sipush C.1 C.2.1 hd hn (k H locs ls hR hl hL h1 h2)
theorem av_s_lconst {n : Fin 2} (C : av_Cx p R s m meth c a0 s0 D TY own nL cc ini h0 hf) (hd : decode cc pc = .ok (.lconst n, 1)) (k : av_W p l e R s m args below meth c Q s0 D TY kr sc nL h0 (pc + 1) lv (.inr (.inl (n.val : Int)) :: st) h) : av_W p l e R s m args below meth c Q s0 D TY kr sc nL h0 pc lv st h :=
  fun H locs ls hR hl hL h1 h2 => lv_lconst C.1 C.2.1 hd (by rcases n with ⟨_ | _ | n, hn⟩ <;> first | rfl | omega) (k H locs ls hR hl hL h1 h2)
theorem av_s_null (C : av_Cx p R s m meth c a0 s0 D TY own nL cc ini h0 hf) (hd : decode cc pc = .ok (.aconst_null, 1)) (k : av_W p l e R s m args below meth c Q s0 D TY kr sc nL h0 (pc + 1) lv (.inr (.inr (.inl none)) :: st) h) : av_W p l e R s m args below meth c Q s0 D TY kr sc nL h0 pc lv st h :=
  fun H locs ls hR hl hL h1 h2 => lv_null C.1 C.2.1 hd (k H locs ls hR hl hL h1 h2)
theorem av_join {lv : av_L} {i : Nat} {v : av_V} (h : (lv[i]?).join = some v) : lv[i]? = some (some v) := by
  rw [Option.join_eq_some_iff] at h
  exact h
theorem av_s_iload_n {i : Fin 4} (C : av_Cx p R s m meth c a0 s0 D TY own nL cc ini h0 hf) (hd : decode cc pc = .ok (.iload_n i, 1)) (hs : av_ldi i.val 1 pc lv st h = some (pc', lv', st', h')) (k : av_W p l e R s m args below meth c Q s0 D TY kr sc nL h0 pc' lv' st' h') : av_W p l e R s m args below meth c Q s0 D TY kr sc nL h0 pc lv st h := by
  intro H locs ls hR hl hL h1 h2
  unfold av_ldi at hs
  split at hs
  · next x hx =>
    cases hs
    exact lv_iload_n C.1 C.2.1 hd rfl (hL.2.2.2 _ _ (av_join hx)) (k H locs ls hR hl hL h1 h2)
  · cases hs
theorem av_s_iload {i : Nat} (C : av_Cx p R s m meth c a0 s0 D TY own nL cc ini h0 hf) (hd : decode cc pc = .ok (.iload i, 2)) (hs : av_ldi i 2 pc lv st h = some (pc', lv', st', h')) (k : av_W p l e R s m args below meth c Q s0 D TY kr sc nL h0 pc' lv' st' h') : av_W p l e R s m args below meth c Q s0 D TY kr sc nL h0 pc lv st h := by
  intro H locs ls hR hl hL h1 h2
  unfold av_ldi at hs
  split at hs
  · next x hx =>
    cases hs
    exact lv_iload C.1 C.2.1 hd (hL.2.2.2 _ _ (av_join hx)) (k H locs ls hR hl hL h1 h2)
  · cases hs
theorem av_s_lload_n {i : Fin 4} (C : av_Cx p R s m meth c a0 s0 D TY own nL cc ini h0 hf) (hd : decode cc pc = .ok (.lload_n i, 1)) (hs : av_ldl i.val 1 pc lv st h = some (pc', lv', st', h')) (k : av_W p l e R s m args below meth c Q s0 D TY kr sc nL h0 pc' lv' st' h') : av_W p l e R s m args below meth c Q s0 D TY kr sc nL h0 pc lv st h := by
  intro H locs ls hR hl hL h1 h2
  unfold av_ldl at hs
  split at hs
  · next x hx =>
    cases hs
    exact lv_lload_n C.1 C.2.1 hd rfl (hL.2.2.2 _ _ (av_join hx)) (k H locs ls hR hl hL h1 h2)
  · cases hs
theorem av_s_lload {i : Nat} (C : av_Cx p R s m meth c a0 s0 D TY own nL cc ini h0 hf) (hd : decode cc pc = .ok (.lload i, 2)) (hs : av_ldl i 2 pc lv st h = some (pc', lv', st', h')) (k : av_W p l e R s m args below meth c Q s0 D TY kr sc nL h0 pc' lv' st' h') : av_W p l e R s m args below meth c Q s0 D TY kr sc nL h0 pc lv st h := by
  intro H locs ls hR hl hL h1 h2
  unfold av_ldl at hs
  split at hs
  · next x hx =>
    cases hs
    exact lv_lload C.1 C.2.1 hd (hL.2.2.2 _ _ (av_join hx)) (k H locs ls hR hl hL h1 h2)
  · cases hs
theorem av_s_aload_n {i : Fin 4} (C : av_Cx p R s m meth c a0 s0 D TY own nL cc ini h0 hf) (hd : decode cc pc = .ok (.aload_n i, 1)) (hs : av_lda i.val 1 pc lv st h = some (pc', lv', st', h')) (k : av_W p l e R s m args below meth c Q s0 D TY kr sc nL h0 pc' lv' st' h') : av_W p l e R s m args below meth c Q s0 D TY kr sc nL h0 pc lv st h := by
  intro H locs ls hR hl hL h1 h2
  unfold av_lda at hs
  split at hs
  · next v hx =>
    cases hs
    have hv := hL.2.2.2 _ _ (av_join hx)
    have kk := k H locs ls hR hl hL h1 h2
    rcases v with (_ | o) | q
    · exact lv_aload_nN C.1 C.2.1 hd rfl hv kk
    · exact lv_aload_n C.1 C.2.1 hd rfl hv kk
    · exact lv_aload_n C.1 C.2.1 hd rfl hv kk
  · cases hs
theorem av_s_aload {i : Nat} (C : av_Cx p R s m meth c a0 s0 D TY own nL cc ini h0 hf) (hd : decode cc pc = .ok (.aload i, 2)) (hs : av_lda i 2 pc lv st h = some (pc', lv', st', h')) (k : av_W p l e R s m args below meth c Q s0 D TY kr sc nL h0 pc' lv' st' h') : av_W p l e R s m args below meth c Q s0 D TY kr sc nL h0 pc lv st h := by
  intro H locs ls hR hl hL h1 h2
  unfold av_lda at hs
  split at hs
  · next v hx =>
    cases hs
    have hv := hL.2.2.2 _ _ (av_join hx)
    have kk := k H locs ls hR hl hL h1 h2
    rcases v with (_ | o) | q
    · exact lv_aloadN C.1 C.2.1 hd hv kk
    · exact lv_aload C.1 C.2.1 hd hv kk
    · exact lv_aload C.1 C.2.1 hd hv kk
  · cases hs
theorem av_s_istore_n {i : Fin 4} (C : av_Cx p R s m meth c a0 s0 D TY own nL cc ini h0 hf) (hd : decode cc pc = .ok (.istore_n i, 1)) (hs : av_sti i.val 1 pc lv st h = some (pc', lv', st', h')) (k : av_W p l e R s m args below meth c Q s0 D TY kr sc nL h0 pc' lv' st' h') : av_W p l e R s m args below meth c Q s0 D TY kr sc nL h0 pc lv st h := by
  intro H locs ls hR hl hL h1 h2
  unfold av_sti at hs
  split at hs
  · next x r =>
    rw [Option.map_eq_some_iff] at hs
    obtain ⟨lv1, hst, he⟩ := hs
    cases he
    exact lv_istore_n C.1 C.2.1 hd rfl (av_toHas hL) (by rw [← hL.2.1]; exact (av_sto_eq hst).1) rfl (fun ls' hh => k H locs ls' hR hl (av_ofHas hL.2.1 hst hh) h1 h2)
  · cases hs
theorem av_s_istore {i : Nat} (C : av_Cx p R s m meth c a0 s0 D TY own nL cc ini h0 hf) (hd : decode cc pc = .ok (.istore i, 2)) (hs : av_sti i 2 pc lv st h = some (pc', lv', st', h')) (k : av_W p l e R s m args below meth c Q s0 D TY kr sc nL h0 pc' lv' st' h') : av_W p l e R s m args below meth c Q s0 D TY kr sc nL h0 pc lv st h := by
  intro H locs ls hR hl hL h1 h2
  unfold av_sti at hs
  split at hs
  · next x r =>
    rw [Option.map_eq_some_iff] at hs
    obtain ⟨lv1, hst, he⟩ := hs
    cases he
    exact lv_istore C.1 C.2.1 hd (av_toHas hL) (by rw [← hL.2.1]; exact (av_sto_eq hst).1) rfl (fun ls' hh => k H locs ls' hR hl (av_ofHas hL.2.1 hst hh) h1 h2)
  · cases hs
theorem av_s_astore_n {i : Fin 4} (C : av_Cx p R s m meth c a0 s0 D TY own nL cc ini h0 hf) (hd : decode cc pc = .ok (.astore_n i, 1)) (hs : av_sta i.val 1 pc lv st h = some (pc', lv', st', h')) (k : av_W p l e R s m args below meth c Q s0 D TY kr sc nL h0 pc' lv' st' h') : av_W p l e R s m args below meth c Q s0 D TY kr sc nL h0 pc lv st h := by
  intro H locs ls hR hl hL h1 h2
  unfold av_sta at hs
  split at hs
  · next v r =>
    rw [Option.map_eq_some_iff] at hs
    obtain ⟨lv1, hst, he⟩ := hs
    cases he
    have hi : i.val < nL := by rw [← hL.2.1]; exact (av_sto_eq hst).1
    rcases v with (_ | o) | q
    · exact lv_astore_nN C.1 C.2.1 hd rfl (av_toHas hL) hi rfl (fun ls' hh => k H locs ls' hR hl (av_ofHas hL.2.1 hst hh) h1 h2)
    · exact lv_astore_n C.1 C.2.1 hd rfl (av_toHas hL) hi rfl (fun ls' hh => k H locs ls' hR hl (av_ofHas hL.2.1 hst hh) h1 h2)
    · exact lv_astore_n C.1 C.2.1 hd rfl (av_toHas hL) hi rfl (fun ls' hh => k H locs ls' hR hl (av_ofHas hL.2.1 hst hh) h1 h2)
  · cases hs
theorem av_s_astore {i : Nat} (C : av_Cx p R s m meth c a0 s0 D TY own nL cc ini h0 hf) (hd : decode cc pc = .ok (.astore i, 2)) (hs : av_sta i 2 pc lv st h = some (pc', lv', st', h')) (k : av_W p l e R s m args below meth c Q s0 D TY kr sc nL h0 pc' lv' st' h') : av_W p l e R s m args below meth c Q s0 D TY kr sc nL h0 pc lv st h := by
  intro H locs ls hR hl hL h1 h2
  unfold av_sta at hs
  split at hs
  · next v r =>
    rw [Option.map_eq_some_iff] at hs
    obtain ⟨lv1, hst, he⟩ := hs
    cases he
    have hi : i < nL := by rw [← hL.2.1]; exact (av_sto_eq hst).1
    rcases v with (_ | o) | q
    · exact lv_astoreN C.1 C.2.1 hd (av_toHas hL) hi rfl (fun ls' hh => k H locs ls' hR hl (av_ofHas hL.2.1 hst hh) h1 h2)
    · exact lv_astore C.1 C.2.1 hd (av_toHas hL) hi rfl (fun ls' hh => k H locs ls' hR hl (av_ofHas hL.2.1 hst hh) h1 h2)
    · exact lv_astore C.1 C.2.1 hd (av_toHas hL) hi rfl (fun ls' hh => k H locs ls' hR hl (av_ofHas hL.2.1 hst hh) h1 h2)
  · cases hs
theorem av_s_iinc {i : Nat} {n : Int} (C : av_Cx p R s m meth c a0 s0 D TY own nL cc ini h0 hf) (hd : decode cc pc = .ok (.iinc i n, 3)) (hs : av_iinc i n pc lv st h = some (pc', lv', st', h')) (k : av_W p l e R s m args below meth c Q s0 D TY kr sc nL h0 pc' lv' st' h') : av_W p l e R s m args below meth c Q s0 D TY kr sc nL h0 pc lv st h := by
  intro H locs ls hR hl hL h1 h2
  unfold av_iinc at hs
  split at hs
  · next x hx =>
    rw [Option.map_eq_some_iff] at hs
    obtain ⟨lv1, hst, he⟩ := hs
    cases he
    have hi : i < nL := by rw [← hL.2.1]; exact (av_sto_eq hst).1
    obtain ⟨k0, hk0⟩ := List.getElem?_of_mem (av_lst_mem (z := s0.heap.size) (kr := kr) (q := (i, Value.int (Int32.ofInt x))) |>.mpr ⟨.inl x, av_join hx, rfl⟩)
    exact lv_iinc C.1 C.2.1 hd (av_toHas hL) hk0 (v := Int32.ofInt (x + n)) (Int32.ofInt_add x n).symm hi rfl (fun ls' hh => k H locs ls' hR hl (av_ofHas hL.2.1 hst hh) h1 h2)
  · cases hs
end AVS
end
section
/-! ONE STEP: sums, jumps, the stack -/
section AVA
variable {p : Program} {l : Launch} {e : Env} {R : Room} {s : State} {m : MethodId} {args : Array Value} {below : List Frame} {meth : Method} {c : Code} {Q : State → Prop}
variable {a0 : Array Value} {s0 : State} {D : va_G} {TY : Nat → ClassId} {kr : Nat → Nat} {sc : Nat × (Nat → Int)} {own nL : Nat} {cc : ByteArray} {ini : Bool} {h0 hf h h' : av_H} {pc pc' : Nat} {lv lv' : av_L} {st st' : List av_V}

theorem av_s_iadd (C : av_Cx p R s m meth c a0 s0 D TY own nL cc ini h0 hf) (hd : decode cc pc = .ok (.iadd, 1)) (hs : av_bin (fun x y => x + y) pc lv st h = some (pc', lv', st', h')) (k : av_W p l e R s m args below meth c Q s0 D TY kr sc nL h0 pc' lv' st' h') : av_W p l e R s m args below meth c Q s0 D TY kr sc nL h0 pc lv st h := by
  intro H locs ls hR hl hL h1 h2
  unfold av_bin at hs
  split at hs
  · next y x r =>
    cases hs
    have kk := k H locs ls hR hl hL h1 h2
    refine lv_iadd C.1 C.2.1 hd (lv_topi (fun v hv => ?_))
    have hv : v = Int32.ofInt ((fun x y => x + y) x y) := hv.trans (((Int32.ofInt_add x y).symm).symm).symm
    subst hv
    exact kk
  · cases hs
theorem av_s_isub (C : av_Cx p R s m meth c a0 s0 D TY own nL cc ini h0 hf) (hd : decode cc pc = .ok (.isub, 1)) (hs : av_bin (fun x y => x - y) pc lv st h = some (pc', lv', st', h')) (k : av_W p l e R s m args below meth c Q s0 D TY kr sc nL h0 pc' lv' st' h') : av_W p l e R s m args below meth c Q s0 D TY kr sc nL h0 pc lv st h := by
  intro H locs ls hR hl hL h1 h2
  unfold av_bin at hs
  split at hs
  · next y x r =>
    cases hs
    have kk := k H locs ls hR hl hL h1 h2
    refine lv_isub C.1 C.2.1 hd (lv_topi (fun v hv => ?_))
    have hv : v = Int32.ofInt ((fun x y => x - y) x y) := hv.trans (((Int32.ofInt_sub x y).symm).symm).symm
    subst hv
    exact kk
  · cases hs
theorem av_s_imul (C : av_Cx p R s m meth c a0 s0 D TY own nL cc ini h0 hf) (hd : decode cc pc = .ok (.imul, 1)) (hs : av_bin (fun x y => x * y) pc lv st h = some (pc', lv', st', h')) (k : av_W p l e R s m args below meth c Q s0 D TY kr sc nL h0 pc' lv' st' h') : av_W p l e R s m args below meth c Q s0 D TY kr sc nL h0 pc lv st h := by
  intro H locs ls hR hl hL h1 h2
  unfold av_bin at hs
  split at hs
  · next y x r =>
    cases hs
    have kk := k H locs ls hR hl hL h1 h2
    refine lv_imul C.1 C.2.1 hd (lv_topi (fun v hv => ?_))
    have hv : v = Int32.ofInt ((fun x y => x * y) x y) := hv.trans (((Int32.ofInt_mul x y).symm).symm).symm
    subst hv
    exact kk
  · cases hs
theorem av_s_iand (C : av_Cx p R s m meth c a0 s0 D TY own nL cc ini h0 hf) (hd : decode cc pc = .ok (.iand, 1)) (hs : av_bin av_and pc lv st h = some (pc', lv', st', h')) (k : av_W p l e R s m args below meth c Q s0 D TY kr sc nL h0 pc' lv' st' h') : av_W p l e R s m args below meth c Q s0 D TY kr sc nL h0 pc lv st h := by
  intro H locs ls hR hl hL h1 h2
  unfold av_bin at hs
  split at hs
  · next y x r =>
    cases hs
    have kk := k H locs ls hR hl hL h1 h2
    refine lv_iand C.1 C.2.1 hd (lv_topi (fun v hv => ?_))
    have hv : v = Int32.ofInt (av_and x y) := hv.trans (((Int32.ofInt_toInt _).symm).symm).symm
    subst hv
    exact kk
  · cases hs
theorem av_s_ior (C : av_Cx p R s m meth c a0 s0 D TY own nL cc ini h0 hf) (hd : decode cc pc = .ok (.ior, 1)) (hs : av_bin av_or pc lv st h = some (pc', lv', st', h')) (k : av_W p l e R s m args below meth c Q s0 D TY kr sc nL h0 pc' lv' st' h') : av_W p l e R s m args below meth c Q s0 D TY kr sc nL h0 pc lv st h := by
  intro H locs ls hR hl hL h1 h2
  unfold av_bin at hs
  split at hs
  · next y x r =>
    cases hs
    have kk := k H locs ls hR hl hL h1 h2
    refine lv_ior C.1 C.2.1 hd (lv_topi (fun v hv => ?_))
    have hv : v = Int32.ofInt (av_or x y) := hv.trans (((Int32.ofInt_toInt _).symm).symm).symm
    subst hv
    exact kk
  · cases hs
theorem av_s_ishl (C : av_Cx p R s m meth c a0 s0 D TY own nL cc ini h0 hf) (hd : decode cc pc = .ok (.ishl, 1)) (hs : av_bin av_shl pc lv st h = some (pc', lv', st', h')) (k : av_W p l e R s m args below meth c Q s0 D TY kr sc nL h0 pc' lv' st' h') : av_W p l e R s m args below meth c Q s0 D TY kr sc nL h0 pc lv st h := by
  intro H locs ls hR hl hL h1 h2
  unfold av_bin at hs
  split at hs
  · next y x r =>
    cases hs
    have kk := k H locs ls hR hl hL h1 h2
    refine lv_ishl C.1 C.2.1 hd (lv_topi (fun v hv => ?_))
    have hv : v = Int32.ofInt (av_shl x y) := hv.trans (((Int32.ofInt_toInt _).symm).symm).symm
    subst hv
    exact kk
  · cases hs
theorem av_s_ishr (C : av_Cx p R s m meth c a0 s0 D TY own nL cc ini h0 hf) (hd : decode cc pc = .ok (.ishr, 1)) (hs : av_bin av_shr pc lv st h = some (pc', lv', st', h')) (k : av_W p l e R s m args below meth c Q s0 D TY kr sc nL h0 pc' lv' st' h') : av_W p l e R s m args below meth c Q s0 D TY kr sc nL h0 pc lv st h := by
  intro H locs ls hR hl hL h1 h2
  unfold av_bin at hs
  split at hs
  · next y x r =>
    cases hs
    have kk := k H locs ls hR hl hL h1 h2
    refine lv_ishr C.1 C.2.1 hd (lv_topi (fun v hv => ?_))
    have hv : v = Int32.ofInt (av_shr x y) := hv.trans (((Int32.ofInt_toInt _).symm).symm).symm
    subst hv
    exact kk
  · cases hs
theorem av_s_iushr (C : av_Cx p R s m meth c a0 s0 D TY own nL cc ini h0 hf) (hd : decode cc pc = .ok (.iushr, 1)) (hs : av_bin av_ushr pc lv st h = some (pc', lv', st', h')) (k : av_W p l e R s m args below meth c Q s0 D TY kr sc nL h0 pc' lv' st' h') : av_W p l e R s m args below meth c Q s0 D TY kr sc nL h0 pc lv st h := by
  intro H locs ls hR hl hL h1 h2
  unfold av_bin at hs
  split at hs
  · next y x r =>
    cases hs
    have kk := k H locs ls hR hl hL h1 h2
    exact lv_iushr C.1 C.2.1 hd (v := Int32.ofInt (av_ushr x y)) (Int32.ofInt_toInt _).symm kk
  · cases hs
theorem av_s_idiv {x y : Int} {r : List av_V} (C : av_Cx p R s m meth c a0 s0 D TY own nL cc ini h0 hf) (hd : decode cc pc = .ok (.idiv, 1)) (hy : ¬ av_w y = 0) (k : av_W p l e R s m args below meth c Q s0 D TY kr sc nL h0 (pc + 1) lv (.inl ((av_w x).tdiv (av_w y)) :: r) h) : av_W p l e R s m args below meth c Q s0 D TY kr sc nL h0 pc lv (.inl y :: .inl x :: r) h := by
  intro H locs ls hR hl hL h1 h2
  have kk := k H locs ls hR hl hL h1 h2
  refine lv_idiv C.1 C.2.1 hd (fun q => hy ?_) (lv_topi (fun v hv => ?_))
  · have := (av_eq y 0).mp q
    exact this
  · have hv : v = Int32.ofInt ((av_w x).tdiv (av_w y)) := hv.trans (av_tdiv x y).symm
    subst hv
    exact kk
theorem av_s_irem {x y : Int} {r : List av_V} (C : av_Cx p R s m meth c a0 s0 D TY own nL cc ini h0 hf) (hd : decode cc pc = .ok (.irem, 1)) (hy : ¬ av_w y = 0) (k : av_W p l e R s m args below meth c Q s0 D TY kr sc nL h0 (pc + 1) lv (.inl ((av_w x).tmod (av_w y)) :: r) h) : av_W p l e R s m args below meth c Q s0 D TY kr sc nL h0 pc lv (.inl y :: .inl x :: r) h := by
  intro H locs ls hR hl hL h1 h2
  have kk := k H locs ls hR hl hL h1 h2
  refine lv_irem C.1 C.2.1 hd (fun q => hy ?_) (lv_topi (fun v hv => ?_))
  · have := (av_eq y 0).mp q
    exact this
  · have hv : v = Int32.ofInt ((av_w x).tmod (av_w y)) := hv.trans (av_tmod x y).symm
    subst hv
    exact kk
theorem av_s_ladd {x y : Int} {r : List av_V} (C : av_Cx p R s m meth c a0 s0 D TY own nL cc ini h0 hf) (hd : decode cc pc = .ok (.ladd, 1)) (k : av_W p l e R s m args below meth c Q s0 D TY kr sc nL h0 (pc + 1) lv (.inr (.inl (x + y)) :: r) h) : av_W p l e R s m args below meth c Q s0 D TY kr sc nL h0 pc lv (.inr (.inl y) :: .inr (.inl x) :: r) h := by
  intro H locs ls hR hl hL h1 h2
  have kk := k H locs ls hR hl hL h1 h2
  refine lv_ladd C.1 C.2.1 hd (lv_topl (fun v hv => ?_))
  have hv : v = Int64.ofInt (x + y) := hv.trans (Int64.ofInt_add x y).symm
  subst hv
  exact kk
theorem av_s_lmul {x y : Int} {r : List av_V} (C : av_Cx p R s m meth c a0 s0 D TY own nL cc ini h0 hf) (hd : decode cc pc = .ok (.lmul, 1)) (k : av_W p l e R s m args below meth c Q s0 D TY kr sc nL h0 (pc + 1) lv (.inr (.inl (x * y)) :: r) h) : av_W p l e R s m args below meth c Q s0 D TY kr sc nL h0 pc lv (.inr (.inl y) :: .inr (.inl x) :: r) h := by
  intro H locs ls hR hl hL h1 h2
  have kk := k H locs ls hR hl hL h1 h2
  refine lv_lmul C.1 C.2.1 hd (lv_topl (fun v hv => ?_))
  have hv : v = Int64.ofInt (x * y) := hv.trans (Int64.ofInt_mul x y).symm
  subst hv
  exact kk
theorem av_lcmp (x y : Int) : lg_cmp (Int64.ofInt x) (Int64.ofInt y) = Int32.ofInt (if av_wl y < av_wl x then 1 else if av_wl x = av_wl y then 0 else -1) := by
  have e1 : Int64.ofInt y < Int64.ofInt x ↔ av_wl y < av_wl x := by rw [Int64.lt_iff_toInt_lt, av_wl_eq, av_wl_eq]
  have e2 : Int64.ofInt x = Int64.ofInt y ↔ av_wl x = av_wl y := by rw [← Int64.toInt_inj, av_wl_eq, av_wl_eq]
  unfold lg_cmp
  by_cases q1 : av_wl y < av_wl x
  · simp [e1, q1]
  · by_cases q2 : av_wl x = av_wl y
    · simp [e1, e2, q2]
    · simp [e1, e2, q1, q2]
theorem av_s_lcmp {x y : Int} {r : List av_V} (C : av_Cx p R s m meth c a0 s0 D TY own nL cc ini h0 hf) (hd : decode cc pc = .ok (.lcmp, 1)) (k : av_W p l e R s m args below meth c Q s0 D TY kr sc nL h0 (pc + 1) lv (.inl (if av_wl y < av_wl x then 1 else if av_wl x = av_wl y then 0 else -1) :: r) h) : av_W p l e R s m args below meth c Q s0 D TY kr sc nL h0 pc lv (.inr (.inl y) :: .inr (.inl x) :: r) h := by
  intro H locs ls hR hl hL h1 h2
  have kk := k H locs ls hR hl hL h1 h2
  refine W.lcmp C.1 C.2.1 hd (lv_topi (fun v hv => ?_))
  have hv : v = Int32.ofInt (if av_wl y < av_wl x then 1 else if av_wl x = av_wl y then 0 else -1) := hv.trans (av_lcmp x y)
  subst hv
  exact kk
theorem av_s_i2l {x : Int} {r : List av_V} (C : av_Cx p R s m meth c a0 s0 D TY own nL cc ini h0 hf) (hd : decode cc pc = .ok (.i2l, 1)) (k : av_W p l e R s m args below meth c Q s0 D TY kr sc nL h0 (pc + 1) lv (.inr (.inl (av_w x)) :: r) h) : av_W p l e R s m args below meth c Q s0 D TY kr sc nL h0 pc lv (.inl x :: r) h :=
  fun H locs ls hR hl hL h1 h2 => lv_i2l C.1 C.2.1 hd (v := Int64.ofInt (av_w x)) (by rw [← av_w_eq, ← Int64.toInt_inj, Int32.toInt_toInt64, Int64.toInt_ofInt]; exact (Int.bmod_eq_of_le (by have := Int32.le_toInt (Int32.ofInt x); simp at this ⊢; omega) (by have := Int32.toInt_lt (Int32.ofInt x); simp at this ⊢; omega)).symm) (k H locs ls hR hl hL h1 h2)
theorem av_s_l2i {x : Int} {r : List av_V} (C : av_Cx p R s m meth c a0 s0 D TY own nL cc ini h0 hf) (hd : decode cc pc = .ok (.l2i, 1)) (k : av_W p l e R s m args below meth c Q s0 D TY kr sc nL h0 (pc + 1) lv (.inl x :: r) h) : av_W p l e R s m args below meth c Q s0 D TY kr sc nL h0 pc lv (.inr (.inl x) :: r) h :=
  fun H locs ls hR hl hL h1 h2 => lv_l2i C.1 C.2.1 hd (v := Int32.ofInt x) (by rw [← Int32.toInt_inj, Int64.toInt_toInt32, Int64.toInt_ofInt, Int32.toInt_ofInt]; exact Int.bmod_bmod_of_dvd ⟨4294967296, rfl⟩) (k H locs ls hR hl hL h1 h2)
theorem av_s_i2b {x : Int} {r : List av_V} (C : av_Cx p R s m meth c a0 s0 D TY own nL cc ini h0 hf) (hd : decode cc pc = .ok (.i2b, 1)) (k : av_W p l e R s m args below meth c Q s0 D TY kr sc nL h0 (pc + 1) lv (.inl (av_b x) :: r) h) : av_W p l e R s m args below meth c Q s0 D TY kr sc nL h0 pc lv (.inl x :: r) h :=
  fun H locs ls hR hl hL h1 h2 => lv_i2b C.1 C.2.1 hd (v := Int32.ofInt (av_b x)) (av_byte x).symm (k H locs ls hR hl hL h1 h2)
theorem av_s_dup {v : av_V} {r : List av_V} (C : av_Cx p R s m meth c a0 s0 D TY own nL cc ini h0 hf) (hd : decode cc pc = .ok (.dup, 1)) (hv : av_cat v = 1) (k : av_W p l e R s m args below meth c Q s0 D TY kr sc nL h0 (pc + 1) lv (v :: v :: r) h) : av_W p l e R s m args below meth c Q s0 D TY kr sc nL h0 pc lv (v :: r) h :=
  fun H locs ls hR hl hL h1 h2 => lv_dup C.1 C.2.1 hd (by rw [av_ev_cat]; exact hv) (k H locs ls hR hl hL h1 h2)
theorem av_s_pop {v : av_V} {r : List av_V} (C : av_Cx p R s m meth c a0 s0 D TY own nL cc ini h0 hf) (hd : decode cc pc = .ok (.pop, 1)) (hv : av_cat v = 1) (k : av_W p l e R s m args below meth c Q s0 D TY kr sc nL h0 (pc + 1) lv r h) : av_W p l e R s m args below meth c Q s0 D TY kr sc nL h0 pc lv (v :: r) h :=
  fun H locs ls hR hl hL h1 h2 => lv_pop C.1 C.2.1 hd (by rw [av_ev_cat]; exact hv) (k H locs ls hR hl hL h1 h2)
theorem av_s_dup2 {v u : av_V} {r : List av_V} (C : av_Cx p R s m meth c a0 s0 D TY own nL cc ini h0 hf) (hd : decode cc pc = .ok (.dup2, 1)) (hv : av_cat v = 1) (hu : av_cat u = 1) (k : av_W p l e R s m args below meth c Q s0 D TY kr sc nL h0 (pc + 1) lv (v :: u :: v :: u :: r) h) : av_W p l e R s m args below meth c Q s0 D TY kr sc nL h0 pc lv (v :: u :: r) h :=
  fun H locs ls hR hl hL h1 h2 => lv_dup2_11 C.1 C.2.1 hd (by rw [av_ev_cat]; exact hv) (by rw [av_ev_cat]; exact hu) (k H locs ls hR hl hL h1 h2)
theorem av_s_goto {off : Int} {t : Nat} (C : av_Cx p R s m meth c a0 s0 D TY own nL cc ini h0 hf) (hd : decode cc pc = .ok (.goto off, 3)) (ht : (pc : Int) + off = (t : Int)) (k : av_W p l e R s m args below meth c Q s0 D TY kr sc nL h0 t lv st h) : av_W p l e R s m args below meth c Q s0 D TY kr sc nL h0 pc lv st h :=
  fun H locs ls hR hl hL h1 h2 => lv_goto C.1 C.2.1 hd ht (k H locs ls hR hl hL h1 h2)
theorem av_s_icmp {cd : Jvm.ClassFile.Cond} {off : Int} {t : Nat} {x y : Int} {r : List av_V} (C : av_Cx p R s m meth c a0 s0 D TY own nL cc ini h0 hf) (hd : decode cc pc = .ok (.if_icmp cd off, 3)) (ht : (pc : Int) + off = (t : Int)) (k : av_W p l e R s m args below meth c Q s0 D TY kr sc nL h0 (if av_cmp cd (av_w x) (av_w y) = true then t else pc + 3) lv r h) : av_W p l e R s m args below meth c Q s0 D TY kr sc nL h0 pc lv (.inl y :: .inl x :: r) h := by
  intro H locs ls hR hl hL h1 h2
  cases cd with
  | eq =>
    refine lv_icmp_eq C.1 C.2.1 hd ht (fun q => ?_) (fun q => ?_)
    · have hc : av_cmp .eq (av_w x) (av_w y) = true := by simpa [av_cmp, av_eq, av_lt, av_le] using q
      rw [if_pos hc] at k
      exact k H locs ls hR hl hL h1 h2
    · have hc : ¬ av_cmp .eq (av_w x) (av_w y) = true := by simpa [av_cmp, av_eq, av_lt, av_le] using q
      rw [if_neg hc] at k
      exact k H locs ls hR hl hL h1 h2
  | ne =>
    refine lv_icmp_ne C.1 C.2.1 hd ht (fun q => ?_) (fun q => ?_)
    · have hc : av_cmp .ne (av_w x) (av_w y) = true := by simpa [av_cmp, av_eq, av_lt, av_le] using q
      rw [if_pos hc] at k
      exact k H locs ls hR hl hL h1 h2
    · have hc : ¬ av_cmp .ne (av_w x) (av_w y) = true := by simpa [av_cmp, av_eq, av_lt, av_le] using q
      rw [if_neg hc] at k
      exact k H locs ls hR hl hL h1 h2
  | lt =>
    refine lv_icmp_lt C.1 C.2.1 hd ht (fun q => ?_) (fun q => ?_)
    · have hc : av_cmp .lt (av_w x) (av_w y) = true := by simpa [av_cmp, av_eq, av_lt, av_le] using q
      rw [if_pos hc] at k
      exact k H locs ls hR hl hL h1 h2
    · have hc : ¬ av_cmp .lt (av_w x) (av_w y) = true := by simpa [av_cmp, av_eq, av_lt, av_le] using q
      rw [if_neg hc] at k
      exact k H locs ls hR hl hL h1 h2
  | ge =>
    refine lv_icmp_ge C.1 C.2.1 hd ht (fun q => ?_) (fun q => ?_)
    · have hc : av_cmp .ge (av_w x) (av_w y) = true := by simpa [av_cmp, av_eq, av_lt, av_le] using q
      rw [if_pos hc] at k
      exact k H locs ls hR hl hL h1 h2
    · have hc : ¬ av_cmp .ge (av_w x) (av_w y) = true := by simpa [av_cmp, av_eq, av_lt, av_le] using q
      rw [if_neg hc] at k
      exact k H locs ls hR hl hL h1 h2
  | gt =>
    refine lv_icmp_gt C.1 C.2.1 hd ht (fun q => ?_) (fun q => ?_)
    · have hc : av_cmp .gt (av_w x) (av_w y) = true := by simpa [av_cmp, av_eq, av_lt, av_le] using q
      rw [if_pos hc] at k
      exact k H locs ls hR hl hL h1 h2
    · have hc : ¬ av_cmp .gt (av_w x) (av_w y) = true := by simpa [av_cmp, av_eq, av_lt, av_le] using q
      rw [if_neg hc] at k
      exact k H locs ls hR hl hL h1 h2
  | le =>
    refine lv_icmp_le C.1 C.2.1 hd ht (fun q => ?_) (fun q => ?_)
    · have hc : av_cmp .le (av_w x) (av_w y) = true := by simpa [av_cmp, av_eq, av_lt, av_le] using q
      rw [if_pos hc] at k
      exact k H locs ls hR hl hL h1 h2
    · have hc : ¬ av_cmp .le (av_w x) (av_w y) = true := by simpa [av_cmp, av_eq, av_lt, av_le] using q
      rw [if_neg hc] at k
      exact k H locs ls hR hl hL h1 h2
theorem av_s_if {cd : Jvm.ClassFile.Cond} {off : Int} {t : Nat} {x : Int} {r : List av_V} (C : av_Cx p R s m meth c a0 s0 D TY own nL cc ini h0 hf) (hd : decode cc pc = .ok (.ifCond cd off, 3)) (ht : (pc : Int) + off = (t : Int)) (k : av_W p l e R s m args below meth c Q s0 D TY kr sc nL h0 (if av_cmp cd (av_w x) 0 = true then t else pc + 3) lv r h) : av_W p l e R s m args below meth c Q s0 D TY kr sc nL h0 pc lv (.inl x :: r) h := by
  intro H locs ls hR hl hL h1 h2
  have e0 : Int32.ofInt x = 0 ↔ av_w x = 0 := av_eq x 0
  have e1 : Int32.ofInt x < 0 ↔ av_w x < 0 := av_lt x 0
  have e2 : Int32.ofInt x ≤ 0 ↔ av_w x ≤ 0 := av_le x 0
  have e3 : (0 : Int32) < Int32.ofInt x ↔ 0 < av_w x := av_lt 0 x
  have e4 : (0 : Int32) ≤ Int32.ofInt x ↔ 0 ≤ av_w x := av_le 0 x
  cases cd with
  | eq =>
    refine lv_if_eq C.1 C.2.1 hd ht (fun q => ?_) (fun q => ?_)
    · have hc : av_cmp .eq (av_w x) 0 = true := by simpa [av_cmp, e0, e1, e2, e3, e4] using q
      rw [if_pos hc] at k
      exact k H locs ls hR hl hL h1 h2
    · have hc : ¬ av_cmp .eq (av_w x) 0 = true := by simpa [av_cmp, e0, e1, e2, e3, e4] using q
      rw [if_neg hc] at k
      exact k H locs ls hR hl hL h1 h2
  | ne =>
    refine lv_if_ne C.1 C.2.1 hd ht (fun q => ?_) (fun q => ?_)
    · have hc : av_cmp .ne (av_w x) 0 = true := by simpa [av_cmp, e0, e1, e2, e3, e4] using q
      rw [if_pos hc] at k
      exact k H locs ls hR hl hL h1 h2
    · have hc : ¬ av_cmp .ne (av_w x) 0 = true := by simpa [av_cmp, e0, e1, e2, e3, e4] using q
      rw [if_neg hc] at k
      exact k H locs ls hR hl hL h1 h2
  | lt =>
    refine lv_if_lt C.1 C.2.1 hd ht (fun q => ?_) (fun q => ?_)
    · have hc : av_cmp .lt (av_w x) 0 = true := by simpa [av_cmp, e0, e1, e2, e3, e4] using q
      rw [if_pos hc] at k
      exact k H locs ls hR hl hL h1 h2
    · have hc : ¬ av_cmp .lt (av_w x) 0 = true := by simpa [av_cmp, e0, e1, e2, e3, e4] using q
      rw [if_neg hc] at k
      exact k H locs ls hR hl hL h1 h2
  | ge =>
    refine lv_if_ge C.1 C.2.1 hd ht (fun q => ?_) (fun q => ?_)
    · have hc : av_cmp .ge (av_w x) 0 = true := by simpa [av_cmp, e0, e1, e2, e3, e4] using q
      rw [if_pos hc] at k
      exact k H locs ls hR hl hL h1 h2
    · have hc : ¬ av_cmp .ge (av_w x) 0 = true := by simpa [av_cmp, e0, e1, e2, e3, e4] using q
      rw [if_neg hc] at k
      exact k H locs ls hR hl hL h1 h2
  | gt =>
    refine lv_if_gt C.1 C.2.1 hd ht (fun q => ?_) (fun q => ?_)
    · have hc : av_cmp .gt (av_w x) 0 = true := by simpa [av_cmp, e0, e1, e2, e3, e4] using q
      rw [if_pos hc] at k
      exact k H locs ls hR hl hL h1 h2
    · have hc : ¬ av_cmp .gt (av_w x) 0 = true := by simpa [av_cmp, e0, e1, e2, e3, e4] using q
      rw [if_neg hc] at k
      exact k H locs ls hR hl hL h1 h2
  | le =>
    refine lv_if_le C.1 C.2.1 hd ht (fun q => ?_) (fun q => ?_)
    · have hc : av_cmp .le (av_w x) 0 = true := by simpa [av_cmp, e0, e1, e2, e3, e4] using q
      rw [if_pos hc] at k
      exact k H locs ls hR hl hL h1 h2
    · have hc : ¬ av_cmp .le (av_w x) 0 = true := by simpa [av_cmp, e0, e1, e2, e3, e4] using q
      rw [if_neg hc] at k
      exact k H locs ls hR hl hL h1 h2
theorem av_s_ifnull {off : Int} {t : Nat} {v : Option Nat} {r : List av_V} (C : av_Cx p R s m meth c a0 s0 D TY own nL cc ini h0 hf) (hd : decode cc pc = .ok (.ifnull off, 3)) (ht : (pc : Int) + off = (t : Int)) (k : av_W p l e R s m args below meth c Q s0 D TY kr sc nL h0 (match v with
      | none => t
      | some _ => pc + 3) lv r h) : av_W p l e R s m args below meth c Q s0 D TY kr sc nL h0 pc lv (.inr (.inr (.inl v)) :: r) h := by
  intro H locs ls hR hl hL h1 h2
  cases v with
  | none => exact lv_ifnullN C.1 C.2.1 hd ht (k H locs ls hR hl hL h1 h2)
  | some o => exact lv_ifnull C.1 C.2.1 hd (k H locs ls hR hl hL h1 h2)
theorem av_s_ifnonnull {off : Int} {t : Nat} {v : Option Nat} {r : List av_V} (C : av_Cx p R s m meth c a0 s0 D TY own nL cc ini h0 hf) (hd : decode cc pc = .ok (.ifnonnull off, 3)) (ht : (pc : Int) + off = (t : Int)) (k : av_W p l e R s m args below meth c Q s0 D TY kr sc nL h0 (match v with
      | none => pc + 3
      | some _ => t) lv r h) : av_W p l e R s m args below meth c Q s0 D TY kr sc nL h0 pc lv (.inr (.inr (.inl v)) :: r) h := by
  intro H locs ls hR hl hL h1 h2
  cases v with
  | none => exact lv_ifnonnullN C.1 C.2.1 hd (k H locs ls hR hl hL h1 h2)
  | some o => exact lv_ifnonnull C.1 C.2.1 hd ht (k H locs ls hR hl hL h1 h2)
theorem av_s_table {d lo hi : Int} {offs : Array Int} {len : Nat} {x : Int} {r : List av_V} (C : av_Cx p R s m meth c a0 s0 D TY own nL cc ini h0 hf) (hd : decode cc pc = .ok (.tableswitch d lo hi offs, len)) (h3 : 0 ≤ (pc : Int) + d) (h4 : ∀ q ∈ offs.toList, 0 ≤ (pc : Int) + q) (h5 : hi - lo < offs.toList.length) (k : av_W p l e R s m args below meth c Q s0 D TY kr sc nL h0 ((pc : Int) + (if av_w x < lo ∨ hi < av_w x then d else offs.toList.getD (av_w x - lo).toNat 0)).toNat lv r h) : av_W p l e R s m args below meth c Q s0 D TY kr sc nL h0 pc lv (.inl x :: r) h := by
  intro H locs ls hR hl hL h1 h2
  by_cases q : av_w x < lo ∨ hi < av_w x
  · rw [if_pos q] at k
    refine lv_tableOut C.1 C.2.1 hd (by rw [av_w_eq]; exact q) (tgt := ((pc : Int) + d).toNat) ?_ (k H locs ls hR hl hL h1 h2)
    omega
  · rw [if_neg q] at k
    have hi1 : (av_w x - lo).toNat < offs.toList.length := by omega
    have e1 : offs.toList.getD (av_w x - lo).toNat 0 = offs.toList[(av_w x - lo).toNat] := by
      rw [List.getD_eq_getElem?_getD, List.getElem?_eq_getElem hi1]; rfl
    have hm : offs.toList.getD (av_w x - lo).toNat 0 ∈ offs.toList := by rw [e1]; exact List.getElem_mem hi1
    refine lv_tableIn C.1 C.2.1 hd (by rw [av_w_eq]; omega) (by rw [av_w_eq]; omega) (off := offs.toList.getD (av_w x - lo).toNat 0) ?_ (tgt := ((pc : Int) + offs.toList.getD (av_w x - lo).toNat 0).toNat) ?_ (k H locs ls hR hl hL h1 h2)
    · rw [av_w_eq, ← Array.getElem?_toList, List.getElem?_eq_getElem hi1, e1]
    · have := h4 _ hm
      omega
theorem av_s_lookup {d : Int} {ps : Array (Int × Int)} {len : Nat} {x : Int} {r : List av_V} (C : av_Cx p R s m meth c a0 s0 D TY own nL cc ini h0 hf) (hd : decode cc pc = .ok (.lookupswitch d ps, len)) (h3 : (ps.toList.zip (ps.toList.drop 1)).all (fun (a, next) => a.1 < next.1) = true) (h4 : 0 ≤ (pc : Int) + Op.lookupswitch.offset ps.toList d (av_w x)) (k : av_W p l e R s m args below meth c Q s0 D TY kr sc nL h0 ((pc : Int) + Op.lookupswitch.offset ps.toList d (av_w x)).toNat lv r h) : av_W p l e R s m args below meth c Q s0 D TY kr sc nL h0 pc lv (.inl x :: r) h :=
  fun H locs ls hR hl hL h1 h2 => lv_lookup C.1 C.2.1 hd h3 (by rw [av_w_eq]) (tgt := ((pc : Int) + Op.lookupswitch.offset ps.toList d (av_w x)).toNat) (by omega) (k H locs ls hR hl hL h1 h2)
end AVA
end
section
/-! ONE STEP: fields and arrays -/
section AVH
variable {p : Program} {l : Launch} {e : Env} {R : Room} {s : State} {m : MethodId} {args : Array Value} {below : List Frame} {meth : Method} {c : Code} {Q : State → Prop}
variable {a0 : Array Value} {s0 : State} {D : va_G} {TY : Nat → ClassId} {kr : Nat → Nat} {sc : Nat × (Nat → Int)} {own nL : Nat} {cc : ByteArray} {ini : Bool} {h0 hf h h' : av_H} {pc pc' : Nat} {lv lv' : av_L} {st st' : List av_V}

theorem av_at_eq {z : Nat} {k : Nat} {H H' : Heap} (hk : av_at z D TY h k H) (hH : H'[z + k]? = H[z + k]?) (hlay : h'.2.2.1 k = h.2.2.1 k) (hA : h'.2.2.2.1 k = h.2.2.2.1 k) (hI : h'.2.2.2.2.1 k = h.2.2.2.2.1 k) (hG : h'.2.2.2.2.2.1 k = h.2.2.2.2.2.1 k) (hRr : h'.2.2.2.2.2.2.1 k = h.2.2.2.2.2.2.1 k) : av_at z D TY h' k H' := by
  unfold av_at at hk ⊢
  rw [hlay]
  by_cases c1 : (h.2.2.1 k).1 < 9
  · rw [if_pos c1] at hk ⊢
    refine (hk.kept hH).to (fun j _ => ?_)
    unfold av_fv
    rw [hI, hG]
  · rw [if_neg c1] at hk ⊢
    by_cases c2 : (h.2.2.1 k).1 < 30
    · rw [if_pos c2] at hk ⊢
      rw [hH, hA]
      exact hk
    · rw [if_neg c2] at hk ⊢
      rw [hH, hRr]
      exact hk
/-- one cell of the small heap has changed -/
theorem av_R_upd {H H' : Heap} {o : Nat} (hR : av_R s0 D TY sc h H) (hz : H'.size = H.size) (hoth : ∀ q : Nat, q ≠ s0.heap.size + o → H'[q]? = H[q]?) (hn : h'.1 = h.1) (hlay : h'.2.2.1 = h.2.2.1) (hsc : h'.2.2.2.2.2.2.2 = h.2.2.2.2.2.2.2)
    (hsame : ∀ k, k ≠ o → h'.2.2.2.1 k = h.2.2.2.1 k ∧ h'.2.2.2.2.1 k = h.2.2.2.2.1 k ∧ h'.2.2.2.2.2.1 k = h.2.2.2.2.2.1 k ∧ h'.2.2.2.2.2.2.1 k = h.2.2.2.2.2.2.1 k) (hc : av_at s0.heap.size D TY h' o H') : av_R s0 D TY sc h' H' := by
  obtain ⟨r1, r2, r3, r4⟩ := hR
  refine ⟨by rw [hz, r1, hn], fun q hq => (hoth q (by omega)).trans (r2 q hq), hsc.trans r3, fun k hk => ?_⟩
  by_cases e : k = o
  · subst e
    exact hc
  · obtain ⟨q1, q2, q3, q4⟩ := hsame k e
    exact av_at_eq (r4 k (by rw [← hn]; exact hk)) (hoth _ (by omega)) (by rw [hlay]) q1 q2 q3 q4
/-- a cell has come behind -/
theorem av_R_new {H H' : Heap} (hR : av_R s0 D TY sc h H) (hz : H'.size = H.size + 1) (hoth : ∀ q : Nat, q < H.size → H'[q]? = H[q]?) (hn : h'.1 = h.1 + 1) (hsc : h'.2.2.2.2.2.2.2 = h.2.2.2.2.2.2.2)
    (hsame : ∀ k, k ≠ h.1 → h'.2.2.1 k = h.2.2.1 k ∧ h'.2.2.2.1 k = h.2.2.2.1 k ∧ h'.2.2.2.2.1 k = h.2.2.2.2.1 k ∧ h'.2.2.2.2.2.1 k = h.2.2.2.2.2.1 k ∧ h'.2.2.2.2.2.2.1 k = h.2.2.2.2.2.2.1 k) (hc : av_at s0.heap.size D TY h' h.1 H') : av_R s0 D TY sc h' H' := by
  obtain ⟨r1, r2, r3, r4⟩ := hR
  refine ⟨by rw [hz, r1, hn]; omega, fun q hq => (hoth q (by omega)).trans (r2 q hq), hsc.trans r3, fun k hk => ?_⟩
  by_cases e : k = h.1
  · subst e
    exact hc
  · obtain ⟨q0, q1, q2, q3, q4⟩ := hsame k e
    exact av_at_eq (r4 k (by omega)) (hoth _ (by omega)) q0 q1 q2 q3 q4
theorem av_wd {w : Cond} (C : av_Cx p R s m meth c a0 s0 D TY own nL cc ini h0 hf) (hw : w ∈ lw_tbl) (hg : (w.onTables && w.keeps) = true) : w.before args s = true := word_at C.2.2.2.2.1 (Or.inl hg) (C.2.2.2.2.2.1.1 w hw)
theorem av_wdA {ty : FieldType} (C : av_Cx p R s m meth c a0 s0 D TY own nL cc ini h0 hf) (hw : Cond.arrayClass ty ∈ lw_tbl) : (Cond.arrayClass ty).before args s = true := word_at C.2.2.2.2.1 (Or.inr ⟨ty, rfl⟩) (C.2.2.2.2.2.1.1 _ hw)
theorem av_wdF {b n d host : String} {a : String} {i : Nat} (C : av_Cx p R s m meth c a0 s0 D TY own nL cc ini h0 hf) (hw : Cond.fieldLinkNest a i b n d host ∈ lw_tbl) : (Cond.fieldLinkNest a i b n d host).before args s = true := va_Nw.use rfl (va_Nw.warmF C.2.2.2.2.1 (va_Nw.of rfl (C.2.2.2.2.2.1.1 _ hw)))
theorem av_wdM {a host : String} {i : Nat} {x : MethodName} (C : av_Cx p R s m meth c a0 s0 D TY own nL cc ini h0 hf) (hw : Cond.methodLinkNest a i x host ∈ lw_tbl) : va_Nw (.methodLinkNest a i x host) s := va_Nw.warmM C.2.2.2.2.1 (va_Nw.of rfl (C.2.2.2.2.2.1.1 _ hw))
theorem av_kn {ci : Nat} (C : av_Cx p R s m meth c a0 s0 D TY own nL cc ini h0 hf) (hci : ci < 9) : u_Kn s (av_cn ci) (av_T ci) (av_N ci) (D.1 ci) (D.2 ci) := u_Kn_moved C.2.2.2.2.1.alike (C.2.2.2.2.2.1.2.1 ci hci)
theorem av_ka {k : Nat} (C : av_Cx p R s m meth c a0 s0 D TY own nL cc ini h0 hf) (hk : k ∈ [20, 21, 22, 30, 31, 32]) : ArrOfT s (TY k) (av_ft k) ∧ va_RA s (TY k) (av_ft k) := ⟨arrOfT_moved C.2.2.2.2.1.alike (C.2.2.2.2.2.1.2.2 k hk).1, (C.2.2.2.2.2.1.2.2 k hk).2.moved C.2.2.2.2.1.alike⟩
theorem av_hts {ci : Nat} (C : av_Cx p R s m meth c a0 s0 D TY own nL cc ini h0 hf) (hci : ci < 9) : ∀ w ∈ u_ws (av_cn ci) (av_T ci) (av_N ci), w.before args s = true := by
  intro w hw
  refine av_wd C (av_lay ci hci w hw) ?_
  obtain ⟨k, -, rfl⟩ := List.mem_map.mp hw
  unfold u_lay
  split <;> rfl
/-- how a field is named at a place: by the tables' word, or by the nest's -/
def av_FL (own idx ci k : Nat) : Prop := Cond.fieldLink (av_cn own) idx (av_T ci k).1 (av_T ci k).2.1 (av_T ci k).2.2.1 ∈ lw_tbl ∨ ∃ host, Cond.fieldLinkNest (av_cn own) idx (av_T ci k).1 (av_T ci k).2.1 (av_T ci k).2.2.1 host ∈ lw_tbl
theorem av_s_getf {x : av_E} {idx : Nat} (C : av_Cx p R s m meth c a0 s0 D TY own nL cc ini h0 hf) (hd : decode cc pc = .ok (.getfield idx, 3)) (hci : x.2.2.1 < 9) (hk : x.2.2.2.1 < av_N x.2.2.1) (ht : x.2.2.2.2.1 = av_tg (av_ty x.2.2.1 x.2.2.2.1)) (hlk : av_FL own idx x.2.2.1 x.2.2.2.1)
    (hs : av_getf x pc lv st h = some (pc', lv', st', h')) (k : av_W p l e R s m args below meth c Q s0 D TY kr sc nL h0 pc' lv' st' h') : av_W p l e R s m args below meth c Q s0 D TY kr sc nL h0 pc lv st h := by
  intro H locs ls hR hl hL h1 h2
  unfold av_getf at hs
  split at hs
  · next o r =>
    split at hs
    · next hc =>
      cases hs
      have kk := k H locs ls hR hl hL h1 h2
      have hat := hR.2.2.2 o hc.1
      unfold av_at at hat
      rw [if_pos (by rw [hc.2]; exact hci), hc.2] at hat
      obtain ⟨cell, q1, q2, q3, q4⟩ := hat
      have hK := av_kn C hci
      obtain ⟨hS, hfc, kC, hkC, hkind⟩ := hK
      obtain ⟨cf, kf, fi, f, hi, hsl⟩ := hS _ hk
      have hst := (u_facts hfc hkC (u_lays (args := args) (av_hts C hci) (fun w hw => hw) hk) hi).1
      have hv : cell.slots[f.slot]? = some (av_ev s0.heap.size kr (match x.2.2.2.2.1 with
        | 1 => .inr (.inl (h.2.2.2.2.1 o x.2.2.2.1))
        | 2 => .inr (.inr (.inl (h.2.2.2.2.2.1 o x.2.2.2.1)))
        | _ => .inl (h.2.2.2.2.1 o x.2.2.2.1))) := by
        rw [hsl, q4 _ hk]
        unfold av_fv
        dsimp only
        rw [← ht]
        generalize x.2.2.2.2.1 = tg
        rcases tg with _ | _ | _ | tg <;> rfl
      rcases hlk with hlk | ⟨host, hlk⟩
      · exact W.getf C.1 C.2.1 C.2.2.2.1 (av_wd C hlk rfl) hi hst q1 (by rw [q3]; exact fun q => by cases q) hv rfl rfl hd kk
      · exact va_Wgetf C.1 C.2.1 C.2.2.2.1 (av_wdF C hlk) hi hst q1 (by rw [q3]; exact fun q => by cases q) hv rfl rfl hd kk
    · cases hs
  · cases hs
theorem av_apart {ci : Nat} (C : av_Cx p R s m meth c a0 s0 D TY own nL cc ini h0 hf) (hci : ci < 9) : ∀ x y, x < av_N ci → y < av_N ci → x ≠ y → (D.2 ci) x ≠ (D.2 ci) y := by
  intro x y hx hy hne
  obtain ⟨hS, -⟩ := av_kn C hci
  obtain ⟨_, _, _, fa, hia, ea⟩ := hS x hx
  obtain ⟨_, _, _, fb, hib, eb⟩ := hS y hy
  rw [← ea, ← eb]
  refine u_apart (args := #[]) (u_lays (args := #[]) (av_hts C hci) (fun w hw => hw) hx) (u_lays (args := #[]) (av_hts C hci) (fun w hw => hw) hy) hia hib ?_
  rw [(State.fieldFound?_type hia (av_tyok ci hci x hx)).1, (State.fieldFound?_type hib (av_tyok ci hci y hy)).1]
  exact av_nm ci hci x hx y hy hne
/-- a store into a field: the cell, as the kit's rows give it -/
theorem av_put {idx ci k o : Nat} {v : Value} {rest : List Value} {H : Heap} {locs : List Loc} {cells slots : Nat} {ls : Array Slot} (C : av_Cx p R s m meth c a0 s0 D TY own nL cc ini h0 hf) (hd : decode cc pc = .ok (.putfield idx, 3)) (hci : ci < 9) (hk : k < av_N ci) (hlk : av_FL own idx ci k) (hfi : (av_T ci k).2.2.2 = false ∨ (own = ci ∧ (av_T ci k).1 = av_cn ci ∧ ini = true ∧ Cond.fieldLink (av_cn own) idx (av_T ci k).1 (av_T ci k).2.1 (av_T ci k).2.2.1 ∈ lw_tbl))
    (hn : narrow (av_ty ci k) v = v) (hfit : fits (av_ty ci k) v = true) (ho : o < h.1 ∧ (h.2.2.1 o).1 = ci) (hR : av_R s0 D TY sc h H)
    (kk : ∀ (H1 : Heap) (lc : Loc), H1.size = H.size → (∀ q : Nat, q ≠ s0.heap.size + o → H1[q]? = H[q]?) → t_OB (s0.heap.size + o) (D.1 ci) (av_N ci) (D.2 ci) H1 (updV (fun j => av_fv s0.heap.size h (av_ty ci j) o j) k v) → lc.base = s0.heap.size + o → W p l e R s m args below meth c H1 (locs ++ [lc]) cells slots Q (F0 m (pc + 3) ls rest)) : W p l e R s m args below meth c H locs cells slots Q (F0 m pc ls (v :: .ref (s0.heap.size + o) :: rest)) := by
  have hap := av_apart C hci
  have hat := hR.2.2.2 o ho.1
  unfold av_at at hat
  rw [if_pos (by rw [ho.2]; exact hci), ho.2] at hat
  obtain ⟨cell, q1, q2, q3, q4⟩ := hat
  have hK := av_kn C hci
  obtain ⟨hS, hfc, kC, hkC, hkind⟩ := hK
  obtain ⟨cf, kf, fi, f, hi, hsl⟩ := hS _ hk
  have hts := av_hts (args := args) C hci
  have hst := (u_facts hfc hkC (u_lays hts (fun w hw => hw) hk) hi).1
  have hlay := hts _ (u_in_lay hk)
  have hty := av_tyok ci hci k hk
  have fin : ∀ (H' : Heap), H'[s0.heap.size + o]? = some (cell.setSlot f.slot v) → t_OB (s0.heap.size + o) (D.1 ci) (av_N ci) (D.2 ci) H' (updV (fun j => av_fv s0.heap.size h (av_ty ci j) o j) k v) := by
    intro H' e1
    rw [hsl] at e1
    exact ⟨_, e1, q2, q3, t_set q4 hap hk v⟩
  rcases hfi with hfi | ⟨hoc, hdl, hin, hlf⟩
  · unfold u_lay at hlay
    rw [if_neg (by rw [hfi]; decide)] at hlay
    have h6 := u_store hfc hkC hkind hlay hi hty hn hfit
    rcases hlk with hlk | ⟨host, hlk⟩
    · exact W.putK C.1 C.2.1 (f := f) ⟨C.2.2.2.1, av_wd C hlk rfl, ⟨_, _, _, hi⟩, hst⟩ (by rw [q2]; exact h6) q1 q3 (by rw [hsl]; exact k2_hasslot (q4 k hk)) rfl rfl hd fun H' e1 e2 e3 => kk H' _ e2 e3 (fin H' e1) rfl
    · exact va_WputK C.1 C.2.1 (f := f) C.2.2.2.1 (av_wdF C hlk) hi hst (by rw [q2]; exact h6) q1 q3 (by rw [hsl]; exact k2_hasslot (q4 k hk)) rfl rfl hd fun H' e1 e2 e3 => kk H' _ e2 e3 (fin H' e1) rfl
  · by_cases hfi : (av_T ci k).2.2.2 = true
    · unfold u_lay at hlay
      rw [if_pos hfi] at hlay
      have hcf : m.cls = cf := by
        obtain ⟨_, _, c', _, _, _, -, -, hf', -, -, -, hown2, -⟩ := Cond.laysFinal_spec hlay
        have e1 : c' = cf := by have := hi.symm.trans hf'; simp at this; exact this.1.symm
        rw [hdl, ← hoc] at hown2
        rw [← e1]
        exact Option.some.inj (C.2.2.2.1.symm.trans hown2)
      have h6 := u_fits hfc hkC hkind (Or.inr hlay) hi hty hn hfit
      exact W.putFinK C.1 C.2.1 C.2.2.2.1 (av_wd C hlf rfl) hi hst hcf (C.2.2.2.2.2.2.1 hin) (by rw [q2]; exact h6) q1 q3 (by rw [hsl]; exact k2_hasslot (q4 k hk)) rfl rfl hd fun H' e1 e2 e3 => kk H' _ e2 e3 (fin H' e1) rfl
    · unfold u_lay at hlay
      rw [if_neg hfi] at hlay
      have h6 := u_store hfc hkC hkind hlay hi hty hn hfit
      exact W.putK C.1 C.2.1 (f := f) ⟨C.2.2.2.1, av_wd C hlf rfl, ⟨_, _, _, hi⟩, hst⟩ (by rw [q2]; exact h6) q1 q3 (by rw [hsl]; exact k2_hasslot (q4 k hk)) rfl rfl hd fun H' e1 e2 e3 => kk H' _ e2 e3 (fin H' e1) rfl
end AVH
end
section
/-! ONE STEP: stores -/
section AVP
variable {p : Program} {l : Launch} {e : Env} {R : Room} {s : State} {m : MethodId} {args : Array Value} {below : List Frame} {meth : Method} {c : Code} {Q : State → Prop}
variable {a0 : Array Value} {s0 : State} {D : va_G} {TY : Nat → ClassId} {kr : Nat → Nat} {sc : Nat × (Nat → Int)} {own nL : Nat} {cc : ByteArray} {ini : Bool} {h0 hf h h' : av_H} {pc pc' : Nat} {lv lv' : av_L} {st st' : List av_V}

theorem av_u2_ne {α : Type} {f : Nat → Nat → α} {i j a : Nat} {v : α} (h : a ≠ i) : av_u2 f i j v a = f a := by
  funext b
  simp [av_u2, h]
theorem av_u2_self {α : Type} {f : Nat → Nat → α} {i j : Nat} {v : α} : av_u2 f i j v i j = v := by simp [av_u2]
theorem av_u2_oth {α : Type} {f : Nat → Nat → α} {i j b : Nat} {v : α} (h : b ≠ j) : av_u2 f i j v i b = f i b := by simp [av_u2, h]
theorem av_u1_ne {α : Type} {f : Nat → α} {i a : Nat} {v : α} (h : a ≠ i) : av_u1 f i v a = f a := by simp [av_u1, h]
theorem av_u1_self {α : Type} {f : Nat → α} {i : Nat} {v : α} : av_u1 f i v i = v := by simp [av_u1]
theorem av_locs {locs : List Loc} {lc : Loc} {z o : Nat} (hl : ∀ q ∈ locs, z ≤ q.base) (hb : lc.base = z + o) : ∀ q ∈ locs ++ [lc], z ≤ q.base := by
  intro q hq
  rcases List.mem_append.mp hq with hq | hq
  · exact hl q hq
  · rw [List.mem_singleton.mp hq, hb]
    omega
theorem av_tg1 {ty : FieldType} (h : av_tg ty = 1) : ty = .long := by cases ty <;> first | rfl | cases h
theorem av_tg3 {ty : FieldType} (h : av_tg ty = 3) : ty = .boolean := by cases ty <;> first | rfl | cases h
theorem av_tg2 {ty : FieldType} (h : av_tg ty = 2) (v : Option Nat) : narrow ty (va_rf v) = va_rf v ∧ fits ty (va_rf v) = true := by
  cases ty <;> first | (cases v <;> exact ⟨rfl, rfl⟩) | cases h
theorem av_bool {x : Int} (h : x = 0 ∨ x = 1) : narrow .boolean (.int (Int32.ofInt x)) = .int (Int32.ofInt x) ∧ fits .boolean (.int (Int32.ofInt x)) = true := by
  rcases h with rfl | rfl
  · exact ⟨by decide, by decide⟩
  · exact ⟨by decide, by decide⟩
/-- the object's cell behind a store into its number field k -/
theorem av_at_putI {H1 : Heap} {z o ci k : Nat} {x : Int} (hci : ci < 9) (ho : (h.2.2.1 o).1 = ci) (hv : av_tg (av_ty ci k) ≠ 2) (hob : t_OB (z + o) (D.1 ci) (av_N ci) (D.2 ci) H1 (updV (fun j => av_fv z h (av_ty ci j) o j) k (match av_tg (av_ty ci k) with
    | 1 => .long (Int64.ofInt x)
    | _ => .int (Int32.ofInt x)))) : av_at z D TY (h.1, h.2.1, h.2.2.1, h.2.2.2.1, av_u2 h.2.2.2.2.1 o k x, h.2.2.2.2.2) o H1 := by
  unfold av_at
  dsimp only
  rw [if_pos (by rw [ho]; exact hci), ho]
  refine hob.to (fun j _ => ?_)
  by_cases e : j = k
  · subst e
    simp only [updV, if_pos]
    unfold av_fv
    simp only [av_u2_self]
    generalize av_tg (av_ty ci j) = tg at hv
    rcases tg with _ | _ | _ | tg
    · rfl
    · rfl
    · exact absurd rfl hv
    · rfl
  · simp only [updV, if_neg e]
    unfold av_fv
    simp only [av_u2_oth e]
theorem av_at_putG {H1 : Heap} {z o ci k : Nat} {v : Option Nat} (hci : ci < 9) (ho : (h.2.2.1 o).1 = ci) (hv : av_tg (av_ty ci k) = 2) (hob : t_OB (z + o) (D.1 ci) (av_N ci) (D.2 ci) H1 (updV (fun j => av_fv z h (av_ty ci j) o j) k (va_rf (v.map (fun q => z + q))))) : av_at z D TY (h.1, h.2.1, h.2.2.1, h.2.2.2.1, h.2.2.2.2.1, av_u2 h.2.2.2.2.2.1 o k v, h.2.2.2.2.2.2) o H1 := by
  unfold av_at
  dsimp only
  rw [if_pos (by rw [ho]; exact hci), ho]
  refine hob.to (fun j _ => ?_)
  by_cases e : j = k
  · subst e
    simp only [updV, if_pos]
    unfold av_fv
    simp only [av_u2_self, hv]
  · simp only [updV, if_neg e]
    unfold av_fv
    simp only [av_u2_oth e]
theorem av_s_putf {x : av_E} {idx : Nat} (C : av_Cx p R s m meth c a0 s0 D TY own nL cc ini h0 hf) (hd : decode cc pc = .ok (.putfield idx, 3)) (hci : x.2.2.1 < 9) (hk : x.2.2.2.1 < av_N x.2.2.1) (ht : x.2.2.2.2.1 = av_tg (av_ty x.2.2.1 x.2.2.2.1)) (ht0 : x.2.2.2.2.1 = 0 → av_ty x.2.2.1 x.2.2.2.1 = .int) (hlk : av_FL own idx x.2.2.1 x.2.2.2.1)
    (hfi : (av_T x.2.2.1 x.2.2.2.1).2.2.2 = false ∨ (own = x.2.2.1 ∧ (av_T x.2.2.1 x.2.2.2.1).1 = av_cn x.2.2.1 ∧ ini = true ∧ Cond.fieldLink (av_cn own) idx (av_T x.2.2.1 x.2.2.2.1).1 (av_T x.2.2.1 x.2.2.2.1).2.1 (av_T x.2.2.1 x.2.2.2.1).2.2.1 ∈ lw_tbl))
    (hs : av_putf x pc lv st h = some (pc', lv', st', h')) (k : av_W p l e R s m args below meth c Q s0 D TY kr sc nL h0 pc' lv' st' h') : av_W p l e R s m args below meth c Q s0 D TY kr sc nL h0 pc lv st h := by
  intro H locs ls hR hl hL h1 h2
  unfold av_putf at hs
  split at hs
  · next tg st9 v o r et =>
    split at hs
    · next hc =>
      cases hs
      have ety := ht0 et
      refine av_put C hd hci hk hlk hfi (by rw [ety]; rfl) (by rw [ety]; rfl) hc hR (fun H1 lc e1 e2 e3 e4 => ?_)
      refine k H1 (locs ++ [lc]) ls (av_R_upd hR e1 e2 rfl rfl rfl (fun k hk => ⟨rfl, av_u2_ne hk, rfl, rfl⟩) (av_at_putI hci hc.2 (by rw [← ht, et]; decide) ?_)) (av_locs hl e4) hL h1 h2
      rw [← ht, et]
      exact e3
    · cases hs
  · next tg st9 v o r et =>
    split at hs
    · next hc =>
      cases hs
      have ety := av_tg1 (ht.symm.trans et)
      refine av_put C hd hci hk hlk hfi (by rw [ety]; rfl) (by rw [ety]; rfl) hc hR (fun H1 lc e1 e2 e3 e4 => ?_)
      refine k H1 (locs ++ [lc]) ls (av_R_upd hR e1 e2 rfl rfl rfl (fun k hk => ⟨rfl, av_u2_ne hk, rfl, rfl⟩) (av_at_putI hci hc.2 (by rw [← ht, et]; decide) ?_)) (av_locs hl e4) hL h1 h2
      rw [← ht, et]
      exact e3
    · cases hs
  · next tg st9 v o r et =>
    split at hs
    · next hc =>
      cases hs
      have ety := av_tg2 (ht.symm.trans et)
      refine av_put C hd hci hk hlk hfi (ety _).1 (ety _).2 hc hR (fun H1 lc e1 e2 e3 e4 => ?_)
      exact k H1 (locs ++ [lc]) ls (av_R_upd hR e1 e2 rfl rfl rfl (fun k hk => ⟨rfl, rfl, av_u2_ne hk, rfl⟩) (av_at_putG hci hc.2 (ht.symm.trans et) e3)) (av_locs hl e4) hL h1 h2
    · cases hs
  · next tg st9 v o r et =>
    split at hs
    · next hc =>
      cases hs
      have ety := av_tg3 (ht.symm.trans et)
      refine av_put C hd hci hk hlk hfi (by rw [ety]; exact (av_bool hc.2).1) (by rw [ety]; exact (av_bool hc.2).2) hc.1 hR (fun H1 lc e1 e2 e3 e4 => ?_)
      refine k H1 (locs ++ [lc]) ls (av_R_upd hR e1 e2 rfl rfl rfl (fun k hk => ⟨rfl, av_u2_ne hk, rfl, rfl⟩) (av_at_putI hci hc.1.2 (by rw [← ht, et]; decide) ?_)) (av_locs hl e4) hL h1 h2
      rw [← ht, et]
      exact e3
    · cases hs
  · cases hs
/-- an array's cell -/
theorem av_arrN {H : Heap} {o k : Nat} (hR : av_R s0 D TY sc h H) (ho : o < h.1) (hk : (h.2.2.1 o).1 = k) (h9 : 9 ≤ k) (h30 : k < 30) : H[s0.heap.size + o]? = some (arrV (TY k) (h.2.2.1 o).2 (fun j => .int (Int32.ofInt (h.2.2.2.1 o j)))) := by
  have hat := hR.2.2.2 o ho
  unfold av_at at hat
  rw [if_neg (by omega), if_pos (by omega), hk] at hat
  exact hat
theorem av_arrR {H : Heap} {o k : Nat} (hR : av_R s0 D TY sc h H) (ho : o < h.1) (hk : (h.2.2.1 o).1 = k) (h30 : 30 ≤ k) : H[s0.heap.size + o]? = some (arrV (TY k) (h.2.2.1 o).2 (fun j => va_rf ((h.2.2.2.2.2.2.1 o j).map (fun q => s0.heap.size + q)))) := by
  have hat := hR.2.2.2 o ho
  unfold av_at at hat
  rw [if_neg (by omega), if_neg (by omega), hk] at hat
  exact hat
theorem av_at_setA {H1 : Heap} {z o i : Nat} {x : Int} {k : Nat} (hk : (h.2.2.1 o).1 = k) (h9 : 9 ≤ k) (h30 : k < 30) (hc : H1[z + o]? = some ((arrV (TY k) (h.2.2.1 o).2 (fun j => .int (Int32.ofInt (h.2.2.2.1 o j)))).setSlot i (.int (Int32.ofInt x)))) : av_at z D TY (h.1, h.2.1, h.2.2.1, av_u2 h.2.2.2.1 o i x, h.2.2.2.2) o H1 := by
  unfold av_at
  dsimp only
  rw [if_neg (by omega), if_pos (by omega), hc, arrV_store, hk]
  congr 2
  funext j
  by_cases e : j = i
  · subst e
    simp [updV, av_u2_self]
  · simp [updV, e, av_u2_oth e]
theorem av_at_setR {H1 : Heap} {z o i : Nat} {v : Option Nat} {k : Nat} (hk : (h.2.2.1 o).1 = k) (h30 : 30 ≤ k) (hc : H1[z + o]? = some ((arrV (TY k) (h.2.2.1 o).2 (fun j => va_rf ((h.2.2.2.2.2.2.1 o j).map (fun q => z + q)))).setSlot i (va_rf (v.map (fun q => z + q))))) : av_at z D TY (h.1, h.2.1, h.2.2.1, h.2.2.2.1, h.2.2.2.2.1, h.2.2.2.2.2.1, av_u2 h.2.2.2.2.2.2.1 o i v, h.2.2.2.2.2.2.2) o H1 := by
  unfold av_at
  dsimp only
  rw [if_neg (by omega), if_neg (by omega), hc, arrV_store, hk]
  congr 2
  funext j
  by_cases e : j = i
  · subst e
    simp [updV, av_u2_self]
  · simp [updV, e, av_u2_oth e]
theorem av_s_iast (C : av_Cx p R s m meth c a0 s0 D TY own nL cc ini h0 hf) (hd : decode cc pc = .ok (.iastore, 1)) (hs : av_iast pc lv st h = some (pc', lv', st', h')) (k : av_W p l e R s m args below meth c Q s0 D TY kr sc nL h0 pc' lv' st' h') : av_W p l e R s m args below meth c Q s0 D TY kr sc nL h0 pc lv st h := by
  intro H locs ls hR hl hL h1 h2
  unfold av_iast at hs
  split at hs
  · next x i o r =>
    split at hs
    · next hc =>
      cases hs
      obtain ⟨hin, hlt⟩ := av_inP hc.2
      have hcell := av_arrN hR hc.1.1 hc.1.2 (by omega) (by omega)
      refine W.iast C.1 C.2.1 hcell ((av_ka C (k := 20) (by decide)).1 _ _) (fun q => by cases q) (by rw [arrV_size]; exact hin) rfl rfl hd (fun H' e1 e2 e3 => ?_)
      rw [av_nat] at e1 ⊢
      exact k H' _ ls (av_R_upd hR e2 e3 rfl rfl rfl (fun k hk => ⟨av_u2_ne hk, rfl, rfl, rfl⟩) (av_at_setA hc.1.2 (by omega) (by omega) e1)) (av_locs hl rfl) hL h1 h2
    · cases hs
  · cases hs
theorem av_s_bast (C : av_Cx p R s m meth c a0 s0 D TY own nL cc ini h0 hf) (hd : decode cc pc = .ok (.bastore, 1)) (hs : av_bast pc lv st h = some (pc', lv', st', h')) (k : av_W p l e R s m args below meth c Q s0 D TY kr sc nL h0 pc' lv' st' h') : av_W p l e R s m args below meth c Q s0 D TY kr sc nL h0 pc lv st h := by
  intro H locs ls hR hl hL h1 h2
  unfold av_bast at hs
  split at hs
  · next x i o r =>
    split at hs
    · next hc =>
      cases hs
      obtain ⟨hin, hlt⟩ := av_inP hc.2
      have hcell := av_arrN hR hc.1.1 hc.1.2 (by omega) (by omega)
      refine W.bast C.1 C.2.1 hcell ((av_ka C (k := 21) (by decide)).1 _ _) (fun q => by cases q) (by rw [arrV_size]; exact hin) rfl rfl hd (fun H' e1 e2 e3 => ?_)
      have e1 : H'[s0.heap.size + o]? = some ((arrV (TY 21) (h.2.2.1 o).2 (fun j => .int (Int32.ofInt (h.2.2.2.1 o j)))).setSlot (av_w i).toNat (.int (Int32.ofInt (av_b x)))) := by
        rw [e1, av_nat, av_byte]
        rfl
      rw [av_nat]
      exact k H' _ ls (av_R_upd hR e2 e3 rfl rfl rfl (fun k hk => ⟨av_u2_ne hk, rfl, rfl, rfl⟩) (av_at_setA hc.1.2 (by omega) (by omega) e1)) (av_locs hl rfl) hL h1 h2
    · split at hs
      · next hc =>
        cases hs
        obtain ⟨hin, hlt⟩ := av_inP hc.2.1
        have hcell := av_arrN hR hc.1.1 hc.1.2 (by omega) (by omega)
        refine W.zast C.1 C.2.1 hcell ((av_ka C (k := 22) (by decide)).1 _ _) (fun q => by cases q) (by rw [arrV_size]; exact hin) rfl rfl hd (fun H' e1 e2 e3 => ?_)
        have e1 : H'[s0.heap.size + o]? = some ((arrV (TY 22) (h.2.2.1 o).2 (fun j => .int (Int32.ofInt (h.2.2.2.1 o j)))).setSlot (av_w i).toNat (.int (Int32.ofInt x))) := by
          rw [e1, av_nat]
          rcases hc.2.2 with rfl | rfl <;> rfl
        rw [av_nat]
        exact k H' _ ls (av_R_upd hR e2 e3 rfl rfl rfl (fun k hk => ⟨av_u2_ne hk, rfl, rfl, rfl⟩) (av_at_setA hc.1.2 (by omega) (by omega) e1)) (av_locs hl rfl) hL h1 h2
      · cases hs
  · cases hs
end AVP
end
section
/-! ONE STEP: loads, lengths, what is made -/
section AVN
variable {p : Program} {l : Launch} {e : Env} {R : Room} {s : State} {m : MethodId} {args : Array Value} {below : List Frame} {meth : Method} {c : Code} {Q : State → Prop}
variable {a0 : Array Value} {s0 : State} {D : va_G} {TY : Nat → ClassId} {kr : Nat → Nat} {sc : Nat × (Nat → Int)} {own nL : Nat} {cc : ByteArray} {ini : Bool} {h0 hf h h' : av_H} {pc pc' : Nat} {lv lv' : av_L} {st st' : List av_V}

/-- the script, as the start has it -/
def av_Sc (s0 : State) (kr : Nat → Nat) (sc : Nat × (Nat → Int)) : Prop := va_X (kr 100) sc.1 (fun j => Int32.ofInt (sc.2 j)) s0 s0.heap ∧ kr 100 < s0.heap.size ∧ sc.1 < 2 ^ 31
theorem av_scr {H : Heap} (C : av_Cx p R s m meth c a0 s0 D TY own nL cc ini h0 hf) (hS : av_Sc s0 kr sc) (hR : av_R s0 D TY sc h H) : ∃ scr : Cell, H[kr 100]? = some scr ∧ s.isArrayOf scr .int ∧ scr.vm ≠ .unknown ∧ scr.slots.size = sc.1 ∧ ∀ j : Nat, j < sc.1 → scr.slots[j]? = some (.int (Int32.ofInt (sc.2 j))) := by
  obtain ⟨⟨scr, g1, g2, g3, g4, g5⟩, g6, -⟩ := hS
  exact ⟨scr, by rw [hR.2.1 _ g6]; exact g1, State.isArrayOf_alike C.2.2.2.2.1.alike g2, g3, g4, g5⟩
theorem av_s_iald (C : av_Cx p R s m meth c a0 s0 D TY own nL cc ini h0 hf) (hS : av_Sc s0 kr sc) (hd : decode cc pc = .ok (.iaload, 1)) (hs : av_ald [20] pc lv st h = some (pc', lv', st', h')) (k : av_W p l e R s m args below meth c Q s0 D TY kr sc nL h0 pc' lv' st' h') : av_W p l e R s m args below meth c Q s0 D TY kr sc nL h0 pc lv st h := by
  intro H locs ls hR hl hL h1 h2
  unfold av_ald at hs
  split at hs
  · next i o r =>
    split at hs
    · next hc =>
      cases hs
      obtain ⟨hin, hlt⟩ := av_inP hc.2
      have hk : (h.2.2.1 o).1 = 20 := by simpa using hc.1.2
      have hcell := av_arrN hR hc.1.1 hk (by omega) (by omega)
      refine W.iald C.1 C.2.1 hcell ((av_ka C (k := 20) (by decide)).1 _ _) (fun q => by cases q) (by rw [arrV_size]; exact hin) (v := .int (Int32.ofInt (h.2.2.2.1 o (av_w i).toNat))) ?_ rfl rfl hd (k H locs ls hR hl hL h1 h2)
      rw [av_nat, arrV_read _ _ hlt]
    · cases hs
  · next i r =>
    split at hs
    · next hc =>
      cases hs
      obtain ⟨hin, hlt⟩ := av_inP hc.2
      obtain ⟨scr, g1, g2, g3, g4, g5⟩ := av_scr C hS hR
      rw [hR.2.2.1] at hlt hin
      refine W.iald C.1 C.2.1 g1 g2 g3 (by rw [g4]; exact hin) (v := .int (Int32.ofInt (h.2.2.2.2.2.2.2.2 (av_w i).toNat))) ?_ rfl rfl hd (k H locs ls hR hl hL h1 h2)
      rw [av_nat, hR.2.2.1]
      exact g5 _ hlt
    · cases hs
  · cases hs
theorem av_s_bald (C : av_Cx p R s m meth c a0 s0 D TY own nL cc ini h0 hf) (hd : decode cc pc = .ok (.baload, 1)) (hs : av_ald [21, 22] pc lv st h = some (pc', lv', st', h')) (k : av_W p l e R s m args below meth c Q s0 D TY kr sc nL h0 pc' lv' st' h') : av_W p l e R s m args below meth c Q s0 D TY kr sc nL h0 pc lv st h := by
  intro H locs ls hR hl hL h1 h2
  unfold av_ald at hs
  split at hs
  · next i o r =>
    split at hs
    · next hc =>
      cases hs
      obtain ⟨hin, hlt⟩ := av_inP hc.2
      have hk : (h.2.2.1 o).1 = 21 ∨ (h.2.2.1 o).1 = 22 := by simpa using hc.1.2
      rcases hk with hk | hk
      · have hcell := av_arrN hR hc.1.1 hk (by omega) (by omega)
        refine W.bald C.1 C.2.1 hcell ((av_ka C (k := 21) (by decide)).1 _ _) (fun q => by cases q) (by rw [arrV_size]; exact hin) (v := .int (Int32.ofInt (h.2.2.2.1 o (av_w i).toNat))) ?_ rfl rfl hd (k H locs ls hR hl hL h1 h2)
        rw [av_nat, arrV_read _ _ hlt]
      · have hcell := av_arrN hR hc.1.1 hk (by omega) (by omega)
        refine W.zald C.1 C.2.1 hcell ((av_ka C (k := 22) (by decide)).1 _ _) (fun q => by cases q) (by rw [arrV_size]; exact hin) (v := .int (Int32.ofInt (h.2.2.2.1 o (av_w i).toNat))) ?_ rfl rfl hd (k H locs ls hR hl hL h1 h2)
        rw [av_nat, arrV_read _ _ hlt]
    · cases hs
  · next i r =>
    split at hs
    · next hc => exact absurd hc.1 (by decide)
    · cases hs
  · cases hs
theorem av_s_aald (C : av_Cx p R s m meth c a0 s0 D TY own nL cc ini h0 hf) (hd : decode cc pc = .ok (.aaload, 1)) (hs : av_aald pc lv st h = some (pc', lv', st', h')) (k : av_W p l e R s m args below meth c Q s0 D TY kr sc nL h0 pc' lv' st' h') : av_W p l e R s m args below meth c Q s0 D TY kr sc nL h0 pc lv st h := by
  intro H locs ls hR hl hL h1 h2
  unfold av_aald at hs
  split at hs
  · next i o r =>
    split at hs
    · next hc =>
      cases hs
      obtain ⟨hin, hlt⟩ := av_inP hc.2
      have hk : (h.2.2.1 o).1 = 30 ∨ (h.2.2.1 o).1 = 31 ∨ (h.2.2.1 o).1 = 32 := by simpa using hc.1.2
      have go : ∀ kk : Nat, (h.2.2.1 o).1 = kk → 30 ≤ kk → kk ∈ [20, 21, 22, 30, 31, 32] → (av_ft kk).isReference = true → W p l e R s m args below meth c H locs (h.1 - h0.1) (h.2.1 - h0.2.1) Q (F0 m pc ls ((.inl i :: .inr (.inr (.inl (some o))) :: r).map (av_ev s0.heap.size kr))) := by
        intro kk hk h30 hm hr
        have hcell := av_arrR hR hc.1.1 hk h30
        refine W.aald C.1 C.2.1 hcell ((av_ka C hm).1 _ _) hr (fun q => by cases q) (by rw [arrV_size]; exact hin) (v := va_rf ((h.2.2.2.2.2.2.1 o (av_w i).toNat).map (fun q => s0.heap.size + q))) ?_ rfl rfl hd (k H locs ls hR hl hL h1 h2)
        rw [av_nat, arrV_read _ _ hlt]
      rcases hk with hk | hk | hk
      · exact go 30 hk (by omega) (by decide) rfl
      · exact go 31 hk (by omega) (by decide) rfl
      · exact go 32 hk (by omega) (by decide) rfl
    · cases hs
  · cases hs
theorem av_s_alen (C : av_Cx p R s m meth c a0 s0 D TY own nL cc ini h0 hf) (hS : av_Sc s0 kr sc) (hd : decode cc pc = .ok (.arraylength, 1)) (hs : av_alen pc lv st h = some (pc', lv', st', h')) (k : av_W p l e R s m args below meth c Q s0 D TY kr sc nL h0 pc' lv' st' h') : av_W p l e R s m args below meth c Q s0 D TY kr sc nL h0 pc lv st h := by
  intro H locs ls hR hl hL h1 h2
  unfold av_alen at hs
  split at hs
  · next o r =>
    split at hs
    · next hc =>
      cases hs
      have kk := k H locs ls hR hl hL h1 h2
      have hm := hc.2
      have hcell : ∃ f, H[s0.heap.size + o]? = some (arrV (TY (h.2.2.1 o).1) (h.2.2.1 o).2 f) := by
        by_cases q : (h.2.2.1 o).1 < 30
        · have q9 : 9 ≤ (h.2.2.1 o).1 := by
            simp only [List.mem_cons, List.not_mem_nil, or_false] at hm
            omega
          exact ⟨_, av_arrN hR hc.1 rfl q9 q⟩
        · exact ⟨_, av_arrR hR hc.1 rfl (by omega)⟩
      obtain ⟨f, hcell⟩ := hcell
      refine W.alen C.1 C.2.1 hcell ((av_ka C hm).1 _ _) (n := Int32.ofInt ((h.2.2.1 o).2 : Int)) ?_ rfl rfl hd kk
      rw [arrV_size]
      exact (Int32.ofInt_eq_ofNat (n := (h.2.2.1 o).2)).symm
    · cases hs
  · next r =>
    cases hs
    have kk := k H locs ls hR hl hL h1 h2
    obtain ⟨scr, g1, g2, g3, g4, g5⟩ := av_scr C hS hR
    refine W.alen C.1 C.2.1 g1 g2 (n := Int32.ofInt ((h.2.2.2.2.2.2.2.1 : Nat) : Int)) ?_ rfl rfl hd kk
    rw [g4, hR.2.2.1]
    exact (Int32.ofInt_eq_ofNat (n := sc.1)).symm
  · cases hs
theorem av_s_newa {t : ArrayType} (C : av_Cx p R s m meth c a0 s0 D TY own nL cc ini h0 hf) (hd : decode cc pc = .ok (.newarray t, 2)) (hac : Cond.arrayClass (newarray.typeOf t) ∈ lw_tbl) (hs : av_newa t pc lv st h = some (pc', lv', st', h')) (hle : h'.1 ≤ hf.1 ∧ h'.2.1 ≤ hf.2.1) (k : av_W p l e R s m args below meth c Q s0 D TY kr sc nL h0 pc' lv' st' h') : av_W p l e R s m args below meth c Q s0 D TY kr sc nL h0 pc lv st h := by
  intro H locs ls hR hl hL h1 h2
  unfold av_newa at hs
  split at hs
  · next n r =>
    split at hs
    · next hc =>
      cases hs
      obtain ⟨c1, c2, c3⟩ := hc
      simp only [av_newN] at hle
      have hroom : h.1 - h0.1 + 1 ≤ R.cells ∧ h.2.1 - h0.2.1 + (av_w n).toNat ≤ R.slots := by
        have := C.2.2.2.2.2.2.2
        omega
      have hty : ∃ kk : Nat, av_atk t = kk ∧ kk ∈ [20, 21, 22, 30, 31, 32] ∧ 9 ≤ kk ∧ kk < 30 ∧ newarray.typeOf t = av_ft kk ∧ componentBytes (newarray.typeOf t) ≤ 4 ∧ defaultValue (newarray.typeOf t) = .int 0 ∧ ("[" ++ (newarray.typeOf t).toString) = ("[" ++ (av_ft kk).toString) := by
        cases t <;> first | exact absurd rfl c1 | exact ⟨_, rfl, by decide, by decide, by decide, rfl, by decide, rfl, rfl⟩
      obtain ⟨kk, e1, e2, e3, e4, e5, e6, e7, e8⟩ := hty
      have hka := av_ka C e2
      refine va_newaK C.1 C.2.1 (av_wdA C hac) rfl hd (n := Int32.ofInt n) rfl (by rw [av_lt0]; omega) (av_nat n) (by
        have : (av_w n).toNat ≤ 100000 := by omega
        calc (av_w n).toNat * componentBytes (newarray.typeOf t) ≤ 100000 * 4 := Nat.mul_le_mul this e6
          _ ≤ 536870912 := by decide) hroom.1 hroom.2 rfl (fun H' cA f1 f2 f3 f4 f5 => ?_)
      have hcA : cA = TY kk := by
        have hra := hka.2
        rw [e8] at f5
        have hn : s.vm.findClass ("[" ++ (av_ft kk).toString) = some (TY kk) := by
          simp only [List.mem_cons, List.not_mem_nil, or_false] at e2
          rcases e2 with rfl | rfl | rfl | rfl | rfl | rfl <;> first | exact hra | omega
        exact Option.some.inj (f5.symm.trans hn)
      subst hcA
      rw [e7] at f1
      have hsz := hR.1
      have hR' : av_R s0 D TY sc (av_newN kk (av_w n).toNat (fun _ => 0) h) H' := by
        refine av_R_new hR f2 f3 rfl rfl (fun q hq => ⟨av_u1_ne hq, av_u1_ne hq, rfl, rfl, rfl⟩) ?_
        unfold av_at
        simp only [av_newN, av_u1_self]
        rw [if_neg (by omega), if_pos e4, ← hsz]
        exact f1
      rw [e1] at k
      have kk9 := k H' locs ls hR' hl hL (by simp only [av_newN]; omega) (by simp only [av_newN]; omega)
      have g1 : (av_newN kk (av_w n).toNat (fun _ => 0) h).1 - h0.1 = h.1 - h0.1 + 1 := by simp only [av_newN]; omega
      have g2 : (av_newN kk (av_w n).toNat (fun _ => 0) h).2.1 - h0.2.1 = h.2.1 - h0.2.1 + (av_w n).toNat := by simp only [av_newN]; omega
      rw [g1, g2] at kk9
      rw [hsz]
      exact kk9
    · cases hs
  · cases hs
end AVN
end
section
/-! ONE STEP: objects, rows of references, rows of rows -/
section AVM
variable {p : Program} {l : Launch} {e : Env} {R : Room} {s : State} {m : MethodId} {args : Array Value} {below : List Frame} {meth : Method} {c : Code} {Q : State → Prop}
variable {a0 : Array Value} {s0 : State} {D : va_G} {TY : Nat → ClassId} {kr : Nat → Nat} {sc : Nat × (Nat → Int)} {own nL : Nat} {cc : ByteArray} {ini : Bool} {h0 hf h h' : av_H} {pc pc' : Nat} {lv lv' : av_L} {st st' : List av_V}

theorem av_ra {k : Nat} (C : av_Cx p R s m meth c a0 s0 D TY own nL cc ini h0 hf) (hk : k ∈ [20, 21, 22, 30, 31, 32]) : s.vm.findClass ("[" ++ (av_ft k).toString) = some (TY k) := by
  have hra := (av_ka C hk).2
  simp only [List.mem_cons, List.not_mem_nil, or_false] at hk
  rcases hk with rfl | rfl | rfl | rfl | rfl | rfl
  · exact hra
  · exact hra
  · exact hra
  · obtain ⟨_, _, _, _, _, q⟩ := hra
    exact q
  · obtain ⟨_, _, _, _, _, q⟩ := hra
    exact q
  · exact hra
theorem av_dfl : ∀ ci, ci < 9 → ∀ j, j < av_N ci → defaultValue (av_ty ci j) = (match av_tg (av_ty ci j) with
    | 1 => .long 0
    | 2 => .null
    | _ => .int 0) := by decide +kernel
theorem av_outer (c : ClassId) (N h0 : Nat) : ∀ i : Nat, Jvm.Free.Multi.outerC c N h0 i = arrV c N (fun j => va_rf (if j < i then some (h0 + 1 + j) else none))
  | 0 => by
    show ({ cls := c, slots := Array.replicate N .null, vm := .none } : Cell) = _
    rw [arrV_new]
    refine congrArg (arrV c N) (funext fun j => ?_)
    simp [va_rf]
  | i + 1 => by
    show (Jvm.Free.Multi.outerC c N h0 i).setSlot i (.ref (h0 + 1 + i)) = _
    rw [av_outer c N h0 i, arrV_store]
    refine congrArg (arrV c N) (funext fun j => ?_)
    by_cases e : j = i
    · subst e
      simp [updV, va_rf]
    · by_cases h : j < i
      · simp [updV, e, h, Nat.lt_succ_of_lt h]
      · simp [updV, e, h, show ¬ j < i + 1 by omega]
theorem av_s_new {x : av_E} {idx : Nat} (C : av_Cx p R s m meth c a0 s0 D TY own nL cc ini h0 hf) (hd : decode cc pc = .ok (.new idx, 3)) (hci : x.2.2.1 < 9) (hlk : Cond.classLink (av_cn own) idx (av_cn x.2.2.1) ∈ lw_tbl) (hle : (av_newO x.2.2.1 (av_N x.2.2.1) h).1 ≤ hf.1 ∧ (av_newO x.2.2.1 (av_N x.2.2.1) h).2.1 ≤ hf.2.1) (k : av_W p l e R s m args below meth c Q s0 D TY kr sc nL h0 (pc + 3) lv (.inr (.inr (.inl (some h.1))) :: st) (av_newO x.2.2.1 (av_N x.2.2.1) h)) : av_W p l e R s m args below meth c Q s0 D TY kr sc nL h0 pc lv st h := by
  intro H locs ls hR hl hL h1 h2
  simp only [av_newO] at hle
  have hroom : h.1 - h0.1 + 1 ≤ R.cells ∧ h.2.1 - h0.2.1 + av_N x.2.2.1 ≤ R.slots := by
    have := C.2.2.2.2.2.2.2
    omega
  have hK := av_kn C hci
  have hin := av_inst x.2.2.1 hci
  refine W.newcK C.1 C.2.1 C.2.2.2.1 (av_wd C hlk rfl) (av_wd C hin.1 rfl) (av_wd C hin.2 rfl) rfl hd hroom.1 hroom.2 hK.2.1 rfl (fun H' kC e1 e2 e3 e4 => ?_)
  have hsz := hR.1
  have hb := u_born (args := args) (av_ty x.2.2.1) (av_hts C hci) (fun w hw => hw) hK e1 e2 (av_tyok x.2.2.1 hci)
  have hR' : av_R s0 D TY sc (av_newO x.2.2.1 (av_N x.2.2.1) h) H' := by
    refine av_R_new hR e3 e4 rfl rfl (fun q hq => ⟨av_u1_ne hq, rfl, av_u1_ne hq, av_u1_ne hq, rfl⟩) ?_
    unfold av_at
    simp only [av_newO, av_u1_self]
    rw [if_pos hci, ← hsz]
    refine hb.to (fun j hj => ?_)
    rw [av_dfl _ hci j hj]
    unfold av_fv
    simp only [av_u1_self]
    generalize av_tg (av_ty x.2.2.1 j) = tg
    rcases tg with _ | _ | _ | tg <;> rfl
  have kk := k H' locs ls hR' hl hL (by simp only [av_newO]; omega) (by simp only [av_newO]; omega)
  have g1 : (av_newO x.2.2.1 (av_N x.2.2.1) h).1 - h0.1 = h.1 - h0.1 + 1 := by simp only [av_newO]; omega
  have g2 : (av_newO x.2.2.1 (av_N x.2.2.1) h).2.1 - h0.2.1 = h.2.1 - h0.2.1 + av_N x.2.2.1 := by simp only [av_newO]; omega
  rw [g1, g2] at kk
  rw [hsz]
  exact kk
theorem av_s_anew {x : av_E} {idx : Nat} {C0 : String} (C : av_Cx p R s m meth c a0 s0 D TY own nL cc ini h0 hf) (hd : decode cc pc = .ok (.anewarray idx, 3)) (hft : av_ft x.2.2.1 = .object C0) (hlk : Cond.classLink (av_cn own) idx C0 ∈ lw_tbl) (hov : Cond.arrayOver (.object C0) ∈ lw_tbl) (hs : av_anew x.2.2.1 pc lv st h = some (pc', lv', st', h')) (hle : h'.1 ≤ hf.1 ∧ h'.2.1 ≤ hf.2.1) (k : av_W p l e R s m args below meth c Q s0 D TY kr sc nL h0 pc' lv' st' h') : av_W p l e R s m args below meth c Q s0 D TY kr sc nL h0 pc lv st h := by
  intro H locs ls hR hl hL h1 h2
  unfold av_anew at hs
  split at hs
  · next n r =>
    split at hs
    · next hc =>
      cases hs
      obtain ⟨c1, c2, c3⟩ := hc
      simp only [av_newR] at hle
      have hroom : h.1 - h0.1 + 1 ≤ R.cells ∧ h.2.1 - h0.2.1 + (av_w n).toNat ≤ R.slots := by
        have := C.2.2.2.2.2.2.2
        omega
      have hm : x.2.2.1 ∈ [20, 21, 22, 30, 31, 32] := by rcases c1 with q | q <;> rw [q] <;> decide
      have hov' : va_AO C0 s := va_AO.moved C.2.2.2.2.1.alike (va_AO.of (C.2.2.2.2.2.1.1 _ hov))
      refine W.anew C.1 C.2.1 C.2.2.2.1 (av_wd C hlk rfl) (va_AO.use hov') rfl hd (n := Int32.ofInt n) rfl (by rw [av_lt0]; omega) (by rw [av_nat]; omega) hroom.1 (by rw [av_nat]; exact hroom.2) (fun cA kA comp f1 f2 f3 f4 => ?_)
      have hn := av_ra C hm
      rw [hft] at hn
      have hcA : cA = TY x.2.2.1 := Option.some.inj (f1.symm.trans hn)
      subst hcA
      have hsz := hR.1
      have hR' : av_R s0 D TY sc (av_newR x.2.2.1 (av_w n).toNat h) (H.push { cls := TY x.2.2.1, slots := Array.replicate (Int32.ofInt n).toNatClampNeg .null, vm := .none }) := by
        refine av_R_new hR (Array.size_push _) (fun q hq => by rw [Array.getElem?_push, if_neg (Nat.ne_of_lt hq)]) rfl rfl (fun q hq => ⟨av_u1_ne hq, rfl, rfl, rfl, av_u1_ne hq⟩) ?_
        unfold av_at
        simp only [av_newR, av_u1_self]
        rw [if_neg (by omega), if_neg (by omega), ← hsz, Array.getElem?_push_size, arrV_new, av_nat]
        rfl
      have kk := k _ locs ls hR' hl hL (by simp only [av_newR]; omega) (by simp only [av_newR]; omega)
      have g1 : (av_newR x.2.2.1 (av_w n).toNat h).1 - h0.1 = h.1 - h0.1 + 1 := by simp only [av_newR]; omega
      have g2 : (av_newR x.2.2.1 (av_w n).toNat h).2.1 - h0.2.1 = h.2.1 - h0.2.1 + (av_w n).toNat := by simp only [av_newR]; omega
      rw [g1, g2, ← av_nat] at kk
      rw [hsz]
      exact kk
    · cases hs
  · cases hs
theorem av_s_mnew {idx : Nat} (C : av_Cx p R s m meth c a0 s0 D TY own nL cc ini h0 hf) (hd : decode cc pc = .ok (.multianewarray idx 2, 4)) (hlk : Cond.classLink (av_cn own) idx ("[" ++ (FieldType.array .int).toString) ∈ lw_tbl) (hov : Cond.arrayOver (.array .int) ∈ lw_tbl) (hac : Cond.arrayClass .int ∈ lw_tbl) (hs : av_mnew pc lv st h = some (pc', lv', st', h')) (hle : h'.1 ≤ hf.1 ∧ h'.2.1 ≤ hf.2.1) (k : av_W p l e R s m args below meth c Q s0 D TY kr sc nL h0 pc' lv' st' h') : av_W p l e R s m args below meth c Q s0 D TY kr sc nL h0 pc lv st h := by
  intro H locs ls hR hl hL h1 h2
  unfold av_mnew at hs
  split at hs
  · next d n r =>
    split at hs
    · next hc =>
      cases hs
      obtain ⟨⟨c1, c2⟩, c3, c4⟩ := hc
      have e1 := av_nat n
      have e2 := av_nat d
      generalize hN : (av_w n).toNat = N at *
      generalize hM : (av_w d).toNat = M at *
      have hNM : N * M ≤ 1000 * 1000 := Nat.mul_le_mul (by omega) (by omega)
      simp only [av_newM] at hle
      have hroom : h.1 - h0.1 + (1 + N) ≤ R.cells ∧ h.2.1 - h0.2.1 + (N + N * M) ≤ R.slots := by
        have := C.2.2.2.2.2.2.2
        omega
      have hov' := over_moved (a' := args) C.2.2.2.2.1.alike (C.2.2.2.2.2.1.1 _ hov)
      intro T hT Xs
      obtain ⟨vm₁, cA, comp, -, fA, fC, hO, -, X', step⟩ := Xs.multianewarray2F C.1 C.2.2.2.1 (av_wd C hlk rfl) hov' (av_wdA C hac) (g := F0 m pc ls (.int (Int32.ofInt d) :: .int (Int32.ofInt n) :: r.map (av_ev s0.heap.size kr))) rfl (by rw [C.2.1]; exact hd) rfl (by rw [av_lt0]; omega) (by rw [av_lt0]; omega) (by omega) (by rw [e2]; show M * 4 ≤ 536870912; omega) (by omega) rfl rfl (by rw [e1]; exact hroom.1) (by rw [e1, e2]; exact hroom.2)
      have hcA : cA = TY 32 := Option.some.inj (fA.symm.trans (av_ra C (k := 32) (by decide)))
      have hcC : comp = TY 20 := Option.some.inj (fC.symm.trans (av_ra C (k := 20) (by decide)))
      subst hcA
      subst hcC
      rw [e1, e2] at X' step
      have hsz := hR.1
      generalize hF : Jvm.Free.Multi.fill (T.setVm vm₁) (TY 32) (TY 20) N M (defaultValue .int) N = F at X' step
      have hTh : (T.setVm vm₁).heap = H := hT
      obtain ⟨f1, f2, -, -⟩ := Jvm.Free.Multi.fill_facts (T.setVm vm₁) (TY 32) (TY 20) N M (defaultValue .int) N
      rw [hF, hTh] at f1 f2
      have hold : ∀ x : Nat, x < H.size → F.heap[x]? = H[x]? := fun x hx => by
        have := Jvm.Free.Multi.fill_old (T.setVm vm₁) (TY 32) (TY 20) N M (defaultValue .int) (a := x) (by rw [hTh]; exact hx) N
        rw [hF, hTh] at this
        exact this
      have hrow : ∀ j : Nat, j < N → F.heap[H.size + 1 + j]? = some (arrV (TY 20) M (fun _ => .int 0)) := fun j hj => by
        have := Jvm.Free.Multi.fill_inner (T.setVm vm₁) (TY 32) (TY 20) N M (defaultValue .int) N j hj
        rw [hF, hTh] at this
        rw [this]
        exact congrArg some (arrV_new (TY 20) M (.int 0))
      rw [av_outer] at f2
      have hR' : av_R s0 D TY sc (av_newM N M h) F.heap := by
        obtain ⟨r1, r2, r3, r4⟩ := hR
        refine ⟨by simp only [av_newM]; omega, fun q hq => (hold q (by omega)).trans (r2 q hq), r3, fun q hq => ?_⟩
        simp only [av_newM] at hq
        by_cases q1 : q = h.1
        · subst q1
          unfold av_at
          simp only [av_newM, if_true, av_u1_self]
          rw [if_neg (by omega), if_neg (by omega), ← r1, f2]
          congr 2
          funext j
          by_cases hj : j < N
          · simp only [if_pos hj, Option.map_some]
            congr 2
            omega
          · simp only [if_neg hj, Option.map_none]
        · by_cases q2 : q < h.1
          · refine av_at_eq (r4 q q2) (hold _ (by omega)) ?_ ?_ rfl rfl (av_u1_ne q1)
            · simp only [av_newM]
              rw [if_neg q1, if_neg (by omega)]
            · funext j
              simp only [av_newM]
              rw [if_neg (by omega)]
          · have q3 : h.1 < q ∧ q < h.1 + 1 + N := by omega
            have hkd : (av_newM N M h).2.2.1 q = (20, M) := by
              simp only [av_newM]
              rw [if_neg q1, if_pos q3]
            have hkA : (av_newM N M h).2.2.2.1 q = fun _ => 0 := by
              funext j
              simp only [av_newM]
              rw [if_pos q3]
            unfold av_at
            rw [hkd, hkA, if_neg (show ¬ (20 : Nat) < 9 by omega), if_pos (show (20 : Nat) < 30 by omega)]
            obtain ⟨j, rfl⟩ : ∃ j, q = h.1 + 1 + j := ⟨q - (h.1 + 1), by omega⟩
            have := hrow j (by omega)
            rw [show s0.heap.size + (h.1 + 1 + j) = H.size + 1 + j by omega, this]
            rfl
      have kk := k F.heap locs ls hR' hl hL (by simp only [av_newM]; omega) (by simp only [av_newM]; omega)
      have g1 : (av_newM N M h).1 - h0.1 = h.1 - h0.1 + 1 + N := by simp only [av_newM]; omega
      have g2 : (av_newM N M h).2.1 - h0.2.1 = h.2.1 - h0.2.1 + N + N * M := by simp only [av_newM]; omega
      rw [g1, g2] at kk
      obtain ⟨t, b1, b2⟩ := kk F rfl X'
      refine ⟨t, step t ?_, b2⟩
      rw [hT, hsz]
      exact b1
    · cases hs
  · cases hs
end AVM
end
section
/-! ONE STEP: the library's own members, constants -/
section AVB
variable {p : Program} {l : Launch} {e : Env} {R : Room} {s : State} {m : MethodId} {args : Array Value} {below : List Frame} {meth : Method} {c : Code} {Q : State → Prop}
variable {a0 : Array Value} {s0 : State} {D : va_G} {TY : Nat → ClassId} {kr : Nat → Nat} {sc : Nat × (Nat → Int)} {own nL : Nat} {cc : ByteArray} {ini : Bool} {h0 hf h h' : av_H} {pc pc' : Nat} {lv lv' : av_L} {st st' : List av_V}

theorem av_cats {z : Nat} {kr : Nat → Nat} (r : List av_V) : ((r.map (av_ev z kr)).map fun v => v.category).sum = (r.map av_cat).sum := by
  rw [List.map_map]
  congr 1
  exact List.map_congr_left (fun v _ => av_ev_cat z kr v)
theorem av_s_aast (C : av_Cx p R s m meth c a0 s0 D TY own nL cc ini h0 hf) (hd : decode cc pc = .ok (.aastore, 1)) (hs : av_aast pc lv st h = some (pc', lv', st', h')) (k : av_W p l e R s m args below meth c Q s0 D TY kr sc nL h0 pc' lv' st' h') : av_W p l e R s m args below meth c Q s0 D TY kr sc nL h0 pc lv st h := by
  intro H locs ls hR hl hL h1 h2
  unfold av_aast at hs
  split at hs
  · next v i o r =>
    split at hs
    · next hc =>
      cases hs
      obtain ⟨⟨ho, hk⟩, hi, hv⟩ := hc
      obtain ⟨hin, hlt⟩ := av_inP hi
      have go : ∀ (kk ci : Nat), (h.2.2.1 o).1 = kk → 30 ≤ kk → kk ∈ [20, 21, 22, 30, 31, 32] → ci < 9 → av_ft kk = .object (av_cn ci) → (∀ q, v = some q → q < h.1 ∧ (h.2.2.1 q).1 = ci) → W p l e R s m args below meth c H locs (h.1 - h0.1) (h.2.1 - h0.2.1) Q (F0 m pc ls ((.inr (.inr (.inl v)) :: .inl i :: .inr (.inr (.inl (some o))) :: st').map (av_ev s0.heap.size kr))) := by
        intro kk ci hk h30 hm hci hft hq
        have hcell := av_arrR hR ho hk h30
        obtain ⟨ka, kra⟩ := av_ka C hm
        rw [hft] at ka kra
        have fin : ∀ (H' : Heap), H'[s0.heap.size + o]? = some ((arrV (TY kk) (h.2.2.1 o).2 (fun j => va_rf ((h.2.2.2.2.2.2.1 o j).map (fun q => s0.heap.size + q)))).setSlot (Int32.ofInt i).toNatClampNeg (va_rf (v.map (fun q => s0.heap.size + q)))) → H'.size = H.size → (∀ q, q ≠ s0.heap.size + o → H'[q]? = H[q]?) → W p l e R s m args below meth c H' (locs ++ [⟨s0.heap.size + o, (Int32.ofInt i).toNatClampNeg⟩]) (h.1 - h0.1) (h.2.1 - h0.2.1) Q (F0 m (pc + 1) ls (st'.map (av_ev s0.heap.size kr))) := by
          intro H' e1 e2 e3
          rw [av_nat] at e1
          exact k H' _ ls (av_R_upd hR e2 e3 rfl rfl rfl (fun k hk => ⟨rfl, rfl, rfl, av_u2_ne hk⟩) (av_at_setR hk h30 e1)) (av_locs hl rfl) hL h1 h2
        cases v with
        | none => exact va_WaastN (C := av_cn ci) C.1 C.2.1 hcell (ka _ _) (fun q => by cases q) (by rw [arrV_size]; exact hin) rfl rfl hd (fun H' e1 e2 e3 => fin H' e1 e2 e3)
        | some q =>
          obtain ⟨hq1, hq2⟩ := hq q rfl
          have hat := hR.2.2.2 q hq1
          unfold av_at at hat
          rw [if_pos (by rw [hq2]; exact hci), hq2] at hat
          obtain ⟨cv, g1, g2, g3, -⟩ := hat
          have hcls := (av_kn C hci).2
          obtain ⟨kA, comp, k1, k2, k3, -⟩ := kra
          have hcomp : comp = D.1 ci := Option.some.inj (k3.symm.trans hcls.1)
          subst hcomp
          obtain ⟨kC, hkC, -⟩ := hcls.2
          exact W.aast C.1 C.2.1 hcell (fun q h => by cases h) (fun h => by cases h) k1 k2 rfl hkC ⟨fun q => hin (Or.inl q), by rw [arrV_size, av_nat]; exact hlt⟩ g1 (fun q h => by rw [g3] at h; cases h) (by rw [g2]; exact hkC) (by rw [g2]; exact va_assign hcls) rfl rfl hd (fun H' e1 e2 e3 => fin H' e1 e2 e3)
      rcases hk with hk | hk
      · refine go 30 1 hk (by omega) (by decide) (by omega) rfl (fun q hq => ?_)
        subst hq
        have := of_decide_eq_true hv
        rw [if_pos hk] at this
        exact this
      · refine go 31 5 hk (by omega) (by decide) (by omega) rfl (fun q hq => ?_)
        subst hq
        have := of_decide_eq_true hv
        rw [if_neg (by omega)] at this
        exact this
    · cases hs
  · cases hs
theorem av_s_objInit {idx : Nat} {v : Nat} {r : List av_V} (C : av_Cx p R s m meth c a0 s0 D TY own nL cc ini h0 hf) (hd : decode cc pc = .ok (.invokespecial idx, 3)) (hlk : Cond.methodLink (av_cn own) idx Lib.objectInit ∈ lw_tbl) (hin : Cond.instanceMethod Lib.objectInit ∈ lw_tbl) (hco : Cond.code Lib.objectInit ⟨#[0xb1]⟩ 1 none ∈ lw_tbl) (hr : (r.map av_cat).sum ≤ 8) (hfr : 1 ≤ R.frames) (hlo : 40 ≤ R.locals) (k : av_W p l e R s m args below meth c Q s0 D TY kr sc nL h0 (pc + 3) lv r h) : av_W p l e R s m args below meth c Q s0 D TY kr sc nL h0 pc lv (.inr (.inr (.inl (some v))) :: r) h :=
  fun H locs ls hR hl hL h1 h2 => W.objInit C.1 C.2.1 C.2.2.2.1 (av_wd C hlk rfl) (av_wd C hin rfl) (av_wd C hco rfl) rfl (hL.1.trans C.2.2.1.symm) rfl hd hfr (by
    have := lv_room (m := m) (pc := pc) (ls := ls) (rest := r.map (av_ev s0.heap.size kr)) (st := r.map (av_ev s0.heap.size kr)) (by rw [av_cats]; exact hr)
    show 2 * 0 + _ + 12 ≤ _
    rw [av_cats]
    omega) (k H locs ls hR hl hL h1 h2)
theorem av_s_max {idx : Nat} {x y : Int} {r : List av_V} (C : av_Cx p R s m meth c a0 s0 D TY own nL cc ini h0 hf) (hd : decode cc pc = .ok (.invokestatic idx, 3)) (hlk : Cond.methodLink (av_cn own) idx Lib.Math.max.name ∈ lw_tbl) (hst : Cond.static Lib.Math.max.name ∈ lw_tbl) (hini : Cond.initialized "java/lang/Math" ∈ lw_tbl) (hco : Cond.code Lib.Math.max.name Lib.Math.max.code 2 (some .int) ∈ lw_tbl) (hr : (r.map av_cat).sum ≤ 8) (hfr : 1 ≤ R.frames) (hlo : 40 ≤ R.locals) (hle : h.1 ≤ hf.1 ∧ h.2.1 ≤ hf.2.1) (k : av_W p l e R s m args below meth c Q s0 D TY kr sc nL h0 (pc + 3) lv (.inl (if av_w x < av_w y then y else x) :: r) h) : av_W p l e R s m args below meth c Q s0 D TY kr sc nL h0 pc lv (.inl y :: .inl x :: r) h := by
  intro H locs ls hR hl hL h1 h2
  have hrm := C.2.2.2.2.2.2.2
  refine va_mmax C.1 C.2.1 (C.2.2.1.trans hL.1.symm) C.2.2.2.1 (av_wd C hlk rfl) (av_wd C hst rfl) (av_wd C hini rfl) (av_wd C hco rfl) hfr (by rw [av_cats]; omega) (by omega) (by omega) hd (lv_topi (fun v hv => ?_))
  have hv : v = Int32.ofInt (if av_w x < av_w y then y else x) := by
    rw [hv]
    by_cases q : av_w x < av_w y
    · rw [if_pos q, if_pos ((av_lt x y).mpr q)]
    · rw [if_neg q, if_neg (fun z => q ((av_lt x y).mp z))]
  subst hv
  exact k H locs ls hR hl hL h1 h2
theorem av_s_min {idx : Nat} {x y : Int} {r : List av_V} (C : av_Cx p R s m meth c a0 s0 D TY own nL cc ini h0 hf) (hd : decode cc pc = .ok (.invokestatic idx, 3)) (hlk : Cond.methodLink (av_cn own) idx Lib.Math.min.name ∈ lw_tbl) (hst : Cond.static Lib.Math.min.name ∈ lw_tbl) (hini : Cond.initialized "java/lang/Math" ∈ lw_tbl) (hco : Cond.code Lib.Math.min.name Lib.Math.min.code 2 (some .int) ∈ lw_tbl) (hr : (r.map av_cat).sum ≤ 8) (hfr : 1 ≤ R.frames) (hlo : 40 ≤ R.locals) (hle : h.1 ≤ hf.1 ∧ h.2.1 ≤ hf.2.1) (k : av_W p l e R s m args below meth c Q s0 D TY kr sc nL h0 (pc + 3) lv (.inl (if av_w y < av_w x then y else x) :: r) h) : av_W p l e R s m args below meth c Q s0 D TY kr sc nL h0 pc lv (.inl y :: .inl x :: r) h := by
  intro H locs ls hR hl hL h1 h2
  have hrm := C.2.2.2.2.2.2.2
  refine va_mmin C.1 C.2.1 (C.2.2.1.trans hL.1.symm) C.2.2.2.1 (av_wd C hlk rfl) (av_wd C hst rfl) (av_wd C hini rfl) (av_wd C hco rfl) hfr (by rw [av_cats]; omega) (by omega) (by omega) hd (lv_topi (fun v hv => ?_))
  have hv : v = Int32.ofInt (if av_w y < av_w x then y else x) := by
    rw [hv]
    by_cases q : av_w y < av_w x
    · rw [if_pos q, if_pos ((av_lt y x).mpr q)]
    · rw [if_neg q, if_neg (fun z => q ((av_lt y x).mp z))]
  subst hv
  exact k H locs ls hR hl hL h1 h2
theorem av_nn (x : Int) (h : 0 ≤ av_w x) : (Int32.ofInt x).toInt = (((av_w x).toNat : Nat) : Int) := by
  rw [av_w_eq]
  omega
/-- the row d behind a copy -/
theorem av_at_cpy {H1 : Heap} {z d sp dp n : Nat} {f : Nat → Int} (hk : (h.2.2.1 d).1 = 20) (hc : H1[z + d]? = some (arrV (TY 20) (h.2.2.1 d).2 (fun j => .int (va_cpy (fun i => Int32.ofInt (f i)) (fun i => Int32.ofInt (h.2.2.2.1 d i)) sp dp n j)))) : av_at z D TY (h.1, h.2.1, h.2.2.1, av_cpy h.2.2.2.1 d sp dp n f, h.2.2.2.2) d H1 := by
  unfold av_at
  dsimp only
  rw [if_neg (by omega), if_pos (by omega), hc, hk]
  congr 2
  funext j
  by_cases q : dp ≤ j ∧ j < dp + n
  · simp [va_cpy, av_cpy, q]
  · simp [va_cpy, av_cpy, q]
theorem av_cpy_ne {A : Nat → Nat → Int} {d sp dp n a : Nat} {f : Nat → Int} (h : a ≠ d) : av_cpy A d sp dp n f a = A a := by
  funext j
  simp [av_cpy, h]
theorem av_nfw : nativeFrameWords "java/lang/System" "arraycopy" 5 = 7 := by decide +kernel
theorem av_s_copy {idx d q : Nat} {n dp sp : Int} {r : List av_V} (C : av_Cx p R s m meth c a0 s0 D TY own nL cc ini h0 hf) (hd : decode cc pc = .ok (.invokestatic idx, 3)) (hlk : Cond.methodLink (av_cn own) idx arraycopyName ∈ lw_tbl) (hna : Cond.native arraycopyName ∈ lw_tbl) (hst : Cond.static arraycopyName ∈ lw_tbl) (hini : Cond.initialized "java/lang/System" ∈ lw_tbl) (hr : (r.map av_cat).sum ≤ 8) (hfr : 1 ≤ R.frames) (hlo : 40 ≤ R.locals)
    (hc : (d < h.1 ∧ (h.2.2.1 d).1 = 20) ∧ (q < h.1 ∧ (h.2.2.1 q).1 = 20) ∧ (0 ≤ av_w n ∧ 0 ≤ av_w dp ∧ 0 ≤ av_w sp) ∧ av_w sp + av_w n ≤ (h.2.2.1 q).2 ∧ av_w dp + av_w n ≤ (h.2.2.1 d).2)
    (k : av_W p l e R s m args below meth c Q s0 D TY kr sc nL h0 (pc + 3) lv r (h.1, h.2.1, h.2.2.1, av_cpy h.2.2.2.1 d (av_w sp).toNat (av_w dp).toNat (av_w n).toNat (h.2.2.2.1 q), h.2.2.2.2)) : av_W p l e R s m args below meth c Q s0 D TY kr sc nL h0 pc lv (.inl n :: .inl dp :: .inr (.inr (.inl (some d))) :: .inl sp :: .inr (.inr (.inl (some q))) :: r) h := by
  intro H locs ls hR hl hL h1 h2
  obtain ⟨c1, c2, ⟨c3, c4, c5⟩, c6, c7⟩ := hc
  have hc0 := av_arrN hR c2.1 c2.2 (by omega) (by omega)
  have hc1 := av_arrN hR c1.1 c1.2 (by omega) (by omega)
  obtain ⟨-, k0, hk0, cm0, hkk0⟩ := (av_ka C (k := 20) (by decide)).1 (h.2.2.1 q).2 (fun j => .int (Int32.ofInt (h.2.2.2.1 q j)))
  intro T hT X
  obtain ⟨vm', X', step⟩ := X.arraycopy C.1 C.2.2.2.1 (av_wd C hlk rfl) (av_wd C hna rfl) (av_wd C hst rfl) (av_wd C hini rfl) (src := s0.heap.size + q) (dst := s0.heap.size + d) (cs := arrV (TY 20) (h.2.2.1 q).2 (fun j => .int (Int32.ofInt (h.2.2.2.1 q j)))) (cd := arrV (TY 20) (h.2.2.1 d).2 (fun j => .int (Int32.ofInt (h.2.2.2.1 d j)))) (srcPos := Int32.ofInt sp) (destPos := Int32.ofInt dp) (n := Int32.ofInt n) (by rw [hT]; exact hc0) (by rw [hT]; exact hc1)
    (fun _ h => by cases h) (fun _ h => by cases h) (fun h => by cases h) (fun h => by cases h) hk0 hk0 hkk0 hkk0 (by simp [refKind, av_ft]) (by rw [av_lt0]; omega) (by rw [av_lt0]; omega) (by rw [av_lt0]; omega)
    (by rw [av_nn sp c5, av_nn n c3, arrV_size]; omega)
    (by rw [av_nn dp c4, av_nn n c3, arrV_size]; omega)
    (fun vm₁ _ i hi => by
      rw [av_nat] at hi
      have e : (arrV (TY 20) (h.2.2.1 q).2 (fun j => .int (Int32.ofInt (h.2.2.2.1 q j)))).slots.getD ((Int32.ofInt sp).toNatClampNeg + i) .null = .int (Int32.ofInt (h.2.2.2.1 q ((Int32.ofInt sp).toNatClampNeg + i))) := by
        rw [Array.getD_eq_getD_getElem?, arrV_read _ _ (by rw [av_nat]; omega)]
        rfl
      refine ⟨?_, ?_⟩
      · rw [e]
        rfl
      · rw [e]
        exact trivial)
    (g := F0 m pc ls (.int (Int32.ofInt n) :: .int (Int32.ofInt dp) :: .ref (s0.heap.size + d) :: .int (Int32.ofInt sp) :: .ref (s0.heap.size + q) :: r.map (av_ev s0.heap.size kr))) rfl (by rw [C.2.2.1]; exact hL.1) (rest := r.map (av_ev s0.heap.size kr)) rfl (by rw [C.2.1]; exact hd) hfr (by show 2 * 0 + _ + (nativeFrameWords "java/lang/System" "arraycopy" 5 + 11) ≤ _; rw [av_cats, av_nfw]; omega)
  have e1 : copied (arrV (TY 20) (h.2.2.1 q).2 (fun j => .int (Int32.ofInt (h.2.2.2.1 q j)))) (arrV (TY 20) (h.2.2.1 d).2 (fun j => .int (Int32.ofInt (h.2.2.2.1 d j)))) (Int32.ofInt sp) (Int32.ofInt dp) (Int32.ofInt n) = arrV (TY 20) (h.2.2.1 d).2 (fun j => .int (va_cpy (fun i => Int32.ofInt (h.2.2.2.1 q i)) (fun i => Int32.ofInt (h.2.2.2.1 d i)) (Int32.ofInt sp).toNatClampNeg (Int32.ofInt dp).toNatClampNeg (Int32.ofInt n).toNatClampNeg j)) :=
    va_copied (fun z => .int z) (TY 20) (TY 20) (fun i => Int32.ofInt (h.2.2.2.1 q i)) (fun i => Int32.ofInt (h.2.2.2.1 d i)) (by rw [av_nat, av_nat]; omega)
  rw [e1, av_nat, av_nat, av_nat] at X' step
  have hdl : s0.heap.size + d < H.size := (Array.getElem?_eq_some_iff.mp hc1).1
  have hR' : av_R s0 D TY sc (h.1, h.2.1, h.2.2.1, av_cpy h.2.2.2.1 d (av_w sp).toNat (av_w dp).toNat (av_w n).toNat (h.2.2.2.1 q), h.2.2.2.2) (H.setIfInBounds (s0.heap.size + d) (arrV (TY 20) (h.2.2.1 d).2 (fun j => .int (va_cpy (fun i => Int32.ofInt (h.2.2.2.1 q i)) (fun i => Int32.ofInt (h.2.2.2.1 d i)) (av_w sp).toNat (av_w dp).toNat (av_w n).toNat j)))) := by
    refine av_R_upd (o := d) hR (by simp) (fun x hx => by simp [Array.getElem?_setIfInBounds, Ne.symm hx]) rfl rfl rfl (fun k hk => ⟨av_cpy_ne hk, rfl, rfl, rfl⟩) (av_at_cpy c1.2 ?_)
    simp [Array.getElem?_setIfInBounds, hdl]
  obtain ⟨t, a1, b1⟩ := k _ _ ls hR' (fun x hx => by
      rcases List.mem_append.mp hx with hx | hx
      · exact hl x hx
      · obtain ⟨y, -, hy⟩ := List.mem_map.mp hx
        rw [← hy]
        exact Nat.le_add_right _ _) hL h1 h2 _ (by rw [← hT]; rfl) X'
  exact ⟨t, step t a1, b1⟩

/-- the plain law, as the start has it -/
def av_Pl (s0 : State) (kr : Nat → Nat) : Prop := va_Z RX7 "PLAIN_LAW" "[I" (.ref (kr 101)) (fun q => s0.heap.size ≤ q) s0 s0.heap ∧ va_T .int (kr 101) 14 (fun j => .int (Int32.ofInt (av_plain j))) (fun q => s0.heap.size ≤ q) s0 s0.heap
theorem av_old {H : Heap} (hR : av_R s0 D TY sc h H) : ∀ a : Nat, a < s0.heap.size → ¬ (fun q => s0.heap.size ≤ q) a → H[a]? = s0.heap[a]? := fun a ha _ => hR.2.1 a ha
theorem av_s_copyP {idx d : Nat} {n dp sp : Int} {r : List av_V} (C : av_Cx p R s m meth c a0 s0 D TY own nL cc ini h0 hf) (hPl : av_Pl s0 kr) (hd : decode cc pc = .ok (.invokestatic idx, 3)) (hlk : Cond.methodLink (av_cn own) idx arraycopyName ∈ lw_tbl) (hna : Cond.native arraycopyName ∈ lw_tbl) (hst : Cond.static arraycopyName ∈ lw_tbl) (hini : Cond.initialized "java/lang/System" ∈ lw_tbl) (hr : (r.map av_cat).sum ≤ 8) (hfr : 1 ≤ R.frames) (hlo : 40 ≤ R.locals)
    (hc : (d < h.1 ∧ (h.2.2.1 d).1 = 20) ∧ (0 ≤ av_w n ∧ 0 ≤ av_w dp ∧ 0 ≤ av_w sp) ∧ av_w sp + av_w n ≤ 14 ∧ av_w dp + av_w n ≤ (h.2.2.1 d).2)
    (k : av_W p l e R s m args below meth c Q s0 D TY kr sc nL h0 (pc + 3) lv r (h.1, h.2.1, h.2.2.1, av_cpy h.2.2.2.1 d (av_w sp).toNat (av_w dp).toNat (av_w n).toNat av_plain, h.2.2.2.2)) : av_W p l e R s m args below meth c Q s0 D TY kr sc nL h0 pc lv (.inl n :: .inl dp :: .inr (.inr (.inl (some d))) :: .inl sp :: .inr (.inr (.inr 101)) :: r) h := by
  intro H locs ls hR hl hL h1 h2
  obtain ⟨c1, ⟨c3, c4, c5⟩, c6, c7⟩ := hc
  obtain ⟨scr, hs1, hs2, hs3, hs4, -, hs5, hs7⟩ := (hPl.2.moved C.2.2.2.2.1.alike).kept (av_old hR)
  have hc1 := av_arrN hR c1.1 c1.2 (by omega) (by omega)
  obtain ⟨hs6, k0, hk0, cm0, hkk0⟩ := hs2
  obtain ⟨-, k1, hk1, cm1, hkk1⟩ := (av_ka C (k := 20) (by decide)).1 (h.2.2.1 d).2 (fun j => .int (Int32.ofInt (h.2.2.2.1 d j)))
  intro T hT X
  obtain ⟨vm', X', step⟩ := X.arraycopy C.1 C.2.2.2.1 (av_wd C hlk rfl) (av_wd C hna rfl) (av_wd C hst rfl) (av_wd C hini rfl) (src := kr 101) (dst := s0.heap.size + d) (cs := scr) (cd := arrV (TY 20) (h.2.2.1 d).2 (fun j => .int (Int32.ofInt (h.2.2.2.1 d j)))) (srcPos := Int32.ofInt sp) (destPos := Int32.ofInt dp) (n := Int32.ofInt n) (by rw [hT]; exact hs1) (by rw [hT]; exact hc1)
    hs6 (fun _ h => by cases h) hs3 (fun h => by cases h) hk0 hk1 hkk0 hkk1 (by simp [refKind, av_ft]) (by rw [av_lt0]; omega) (by rw [av_lt0]; omega) (by rw [av_lt0]; omega)
    (by rw [av_nn sp c5, av_nn n c3]; omega)
    (by rw [av_nn dp c4, av_nn n c3, arrV_size]; omega)
    (fun vm₁ _ i hi => by
      rw [av_nat] at hi
      have e : scr.slots.getD ((Int32.ofInt sp).toNatClampNeg + i) .null = .int (Int32.ofInt (av_plain ((Int32.ofInt sp).toNatClampNeg + i))) := by
        rw [Array.getD_eq_getD_getElem?, hs5 _ (by rw [av_nat]; omega)]
        rfl
      refine ⟨?_, ?_⟩
      · rw [e]
        rfl
      · rw [e]
        exact trivial)
    (g := F0 m pc ls (.int (Int32.ofInt n) :: .int (Int32.ofInt dp) :: .ref (s0.heap.size + d) :: .int (Int32.ofInt sp) :: .ref (kr 101) :: r.map (av_ev s0.heap.size kr))) rfl (by rw [C.2.2.1]; exact hL.1) (rest := r.map (av_ev s0.heap.size kr)) rfl (by rw [C.2.1]; exact hd) hfr (by show 2 * 0 + _ + (nativeFrameWords "java/lang/System" "arraycopy" 5 + 11) ≤ _; rw [av_cats, av_nfw]; omega)
  have e1 : copied scr (arrV (TY 20) (h.2.2.1 d).2 (fun j => .int (Int32.ofInt (h.2.2.2.1 d j)))) (Int32.ofInt sp) (Int32.ofInt dp) (Int32.ofInt n) = arrV (TY 20) (h.2.2.1 d).2 (fun j => .int (va_cpy (fun i => Int32.ofInt (av_plain i)) (fun i => Int32.ofInt (h.2.2.2.1 d i)) (Int32.ofInt sp).toNatClampNeg (Int32.ofInt dp).toNatClampNeg (Int32.ofInt n).toNatClampNeg j)) :=
    va_copiedX (fun z => .int z) scr (TY 20) (fun i => Int32.ofInt (av_plain i)) (fun i => Int32.ofInt (h.2.2.2.1 d i)) hs5 (by rw [av_nat, av_nat]; omega)
  rw [e1, av_nat, av_nat, av_nat] at X' step
  have hdl : s0.heap.size + d < H.size := (Array.getElem?_eq_some_iff.mp hc1).1
  have hR' : av_R s0 D TY sc (h.1, h.2.1, h.2.2.1, av_cpy h.2.2.2.1 d (av_w sp).toNat (av_w dp).toNat (av_w n).toNat av_plain, h.2.2.2.2) (H.setIfInBounds (s0.heap.size + d) (arrV (TY 20) (h.2.2.1 d).2 (fun j => .int (va_cpy (fun i => Int32.ofInt (av_plain i)) (fun i => Int32.ofInt (h.2.2.2.1 d i)) (av_w sp).toNat (av_w dp).toNat (av_w n).toNat j)))) := by
    refine av_R_upd (o := d) hR (by simp) (fun x hx => by simp [Array.getElem?_setIfInBounds, Ne.symm hx]) rfl rfl rfl (fun k hk => ⟨av_cpy_ne hk, rfl, rfl, rfl⟩) (av_at_cpy c1.2 ?_)
    simp [Array.getElem?_setIfInBounds, hdl]
  obtain ⟨t, a1, b1⟩ := k _ _ ls hR' (fun x hx => by
      rcases List.mem_append.mp hx with hx | hx
      · exact hl x hx
      · obtain ⟨y, -, hy⟩ := List.mem_map.mp hx
        rw [← hy]
        exact Nat.le_add_right _ _) hL h1 h2 _ (by rw [← hT]; rfl) X'
  exact ⟨t, step t a1, b1⟩
theorem av_s_gets {idx : Nat} (C : av_Cx p R s m meth c a0 s0 D TY own nL cc ini h0 hf) (hPl : av_Pl s0 kr) (hd : decode cc pc = .ok (.getstatic idx, 3)) (hlk : Cond.fieldLink (av_cn own) idx RX7 "PLAIN_LAW" "[I" ∈ lw_tbl ∨ ∃ host, Cond.fieldLinkNest (av_cn own) idx RX7 "PLAIN_LAW" "[I" host ∈ lw_tbl) (k : av_W p l e R s m args below meth c Q s0 D TY kr sc nL h0 (pc + 3) lv (.inr (.inr (.inr 101)) :: st) h) : av_W p l e R s m args below meth c Q s0 D TY kr sc nL h0 pc lv st h := by
  intro H locs ls hR hl hL h1 h2
  obtain ⟨cf, kf, fi, f, a, cell, g1, g2, g3, g4, g5, g6, g7, g8⟩ := (hPl.1.moved C.2.2.2.2.1.alike).kept (av_old hR)
  rcases hlk with hlk | ⟨host, hlk⟩
  · exact W.gets C.1 C.2.1 C.2.2.2.1 (av_wd C hlk rfl) g1 g2 g3 g4 g5 (fun e => by rw [e] at g6; cases g6) g7 rfl hd (k H locs ls hR hl hL h1 h2)
  · exact va_WgetsN C.1 C.2.1 C.2.2.2.1 (av_wdF C hlk) g1 g2 g3 g4 g5 (fun e => by rw [e] at g6; cases g6) g7 rfl hd (k H locs ls hR hl hL h1 h2)
theorem av_s_ldc {idx : Nat} {v : Int} (C : av_Cx p R s m meth c a0 s0 D TY own nL cc ini h0 hf) (hd : decode cc pc = .ok (.ldc idx, 2)) (hc : Cond.constant (av_cn own) idx (Int32.ofInt v) ∈ lw_tbl) (k : av_W p l e R s m args below meth c Q s0 D TY kr sc nL h0 (pc + 2) lv (.inl v :: st) h) : av_W p l e R s m args below meth c Q s0 D TY kr sc nL h0 pc lv st h :=
  fun H locs ls hR hl hL h1 h2 => lv_ldc C.1 C.2.1 C.2.2.2.1 (av_wd C hc rfl) hd (k H locs ls hR hl hL h1 h2)
theorem av_s_ldcw {idx : Nat} {v : Int} (C : av_Cx p R s m meth c a0 s0 D TY own nL cc ini h0 hf) (hd : decode cc pc = .ok (.ldc_w idx, 3)) (hc : Cond.constant (av_cn own) idx (Int32.ofInt v) ∈ lw_tbl) (k : av_W p l e R s m args below meth c Q s0 D TY kr sc nL h0 (pc + 3) lv (.inl v :: st) h) : av_W p l e R s m args below meth c Q s0 D TY kr sc nL h0 pc lv st h :=
  fun H locs ls hR hl hL h1 h2 => lv_ldcw C.1 C.2.1 C.2.2.2.1 (av_wd C hc rfl) hd (k H locs ls hR hl hL h1 h2)
theorem av_s_ldc2 {idx : Nat} {v : Int} (C : av_Cx p R s m meth c a0 s0 D TY own nL cc ini h0 hf) (hd : decode cc pc = .ok (.ldc2_w idx, 3)) (hc : Cond.constantLong (av_cn own) idx (Int64.ofInt v) ∈ lw_tbl) (k : av_W p l e R s m args below meth c Q s0 D TY kr sc nL h0 (pc + 3) lv (.inr (.inl v) :: st) h) : av_W p l e R s m args below meth c Q s0 D TY kr sc nL h0 pc lv st h :=
  fun H locs ls hR hl hL h1 h2 => lv_ldc2 C.1 C.2.1 C.2.2.2.1 (av_wd C hc rfl) hd (k H locs ls hR hl hL h1 h2)
theorem av_s_ldcS {idx q : Nat} {tx : String} (C : av_Cx p R s m meth c a0 s0 D TY own nL cc ini h0 hf) (hd : decode cc pc = .ok (.ldc idx, 2)) (hc : vk_R (av_cn own) idx tx (kr q) s0) (k : av_W p l e R s m args below meth c Q s0 D TY kr sc nL h0 (pc + 2) lv (.inr (.inr (.inr q)) :: st) h) : av_W p l e R s m args below meth c Q s0 D TY kr sc nL h0 pc lv st h :=
  fun H locs ls hR hl hL h1 h2 => va_ldcS C.1 C.2.1 C.2.2.2.1 (hc.warm C.2.2.2.2.1) hd (k H locs ls hR hl hL h1 h2)
theorem av_s_cast {idx o : Nat} {r : List av_V} (C : av_Cx p R s m meth c a0 s0 D TY own nL cc ini h0 hf) (hd : decode cc pc = .ok (.checkcast idx, 3)) (hlk : Cond.classLink (av_cn own) idx "[I" ∈ lw_tbl) (ho : o < h.1 ∧ (h.2.2.1 o).1 = 20) (k : av_W p l e R s m args below meth c Q s0 D TY kr sc nL h0 (pc + 3) lv (.inr (.inr (.inl (some o))) :: r) h) : av_W p l e R s m args below meth c Q s0 D TY kr sc nL h0 pc lv (.inr (.inr (.inl (some o))) :: r) h := by
  intro H locs ls hR hl hL h1 h2
  have hcell := av_arrN hR ho.1 ho.2 (by omega) (by omega)
  exact va_castE C.1 C.2.1 C.2.2.2.1 (av_wd C hlk rfl) ⟨_, hcell, rfl, av_ra C (k := 20) (by decide)⟩ hd (k H locs ls hR hl hL h1 h2)
theorem av_s_clone {idx o : Nat} {r : List av_V} (C : av_Cx p R s m meth c a0 s0 D TY own nL cc ini h0 hf) (hd : decode cc pc = .ok (.invokevirtual idx, 3)) (hlk : Cond.methodLink (av_cn own) idx ⟨"[I", "clone", "()Ljava/lang/Object;"⟩ ∈ lw_tbl) (hsm : Cond.sameMethod "[I" "java/lang/Object" "clone" "()Ljava/lang/Object;" ∈ lw_tbl) (hna : Cond.native ⟨"java/lang/Object", "clone", "()Ljava/lang/Object;"⟩ ∈ lw_tbl) (hin : Cond.instanceMethod ⟨"java/lang/Object", "clone", "()Ljava/lang/Object;"⟩ ∈ lw_tbl)
    (hse : Cond.selects "[I" ⟨"[I", "clone", "()Ljava/lang/Object;"⟩ ⟨"java/lang/Object", "clone", "()Ljava/lang/Object;"⟩ ∈ lw_tbl) (hca : Cond.castable "[I" "java/lang/Cloneable" ∈ lw_tbl) (ho : o < h.1 ∧ (h.2.2.1 o).1 = 20) (hr : (r.map av_cat).sum ≤ 8) (hfr : 1 ≤ R.frames) (hlo : 40 ≤ R.locals) (hle : (av_newN 20 (h.2.2.1 o).2 (h.2.2.2.1 o) h).1 ≤ hf.1 ∧ (av_newN 20 (h.2.2.1 o).2 (h.2.2.2.1 o) h).2.1 ≤ hf.2.1)
    (k : av_W p l e R s m args below meth c Q s0 D TY kr sc nL h0 (pc + 3) lv (.inr (.inr (.inl (some h.1))) :: r) (av_newN 20 (h.2.2.1 o).2 (h.2.2.2.1 o) h)) : av_W p l e R s m args below meth c Q s0 D TY kr sc nL h0 pc lv (.inr (.inr (.inl (some o))) :: r) h := by
  intro H locs ls hR hl hL h1 h2
  simp only [av_newN] at hle
  have hroom : h.1 - h0.1 + 1 ≤ R.cells ∧ h.2.1 - h0.2.1 + (h.2.2.1 o).2 ≤ R.slots := by
    have := C.2.2.2.2.2.2.2
    omega
  have hcell := av_arrN hR ho.1 ho.2 (by omega) (by omega)
  have hnm := av_ra C (k := 20) (by decide)
  have hK : va_K D [] [(TY 20, .int)] s := ⟨fun c q hq => by simp at hq, fun k q hq => by
    rcases k with _ | k
    · cases hq
      exact av_ka C (k := 20) (by decide)
    · simp at hq⟩
  have hsz := hR.1
  obtain ⟨c0, t0', f1, f2, f3⟩ := Cond.castable_spec (va_Nw.use (A := args) rfl (va_Nw.warmC C.2.2.2.2.1 (va_Nw.of rfl (C.2.2.2.2.2.1.1 _ hca))))
  cases hnm.symm.trans f1
  obtain ⟨-, kS, hkS, compS, hkindS⟩ := (av_ka C (k := 20) (by decide)).1 0 (fun _ => .null)
  intro T hT X
  obtain ⟨-, kA, hkA, comp, hkind⟩ := State.isArrayOf_alike X.warmed.alike ((av_ka C (k := 20) (by decide)).1 0 (fun _ => .null))
  have hcellT : T.heap[s0.heap.size + o]? = some (arrV (TY 20) (h.2.2.1 o).2 (fun j => .int (Int32.ofInt (h.2.2.2.1 o j)))) := by rw [hT]; exact hcell
  obtain ⟨vm', X', st'⟩ := X.cloneArray C.1 C.2.2.2.1 (av_wd C hlk rfl) (av_wd C hsm rfl) (av_wd C hna rfl) (av_wd C hin rfl) (av_wd C hse rfl) (a := s0.heap.size + o) (cell := arrV (TY 20) (h.2.2.1 o).2 (fun j => .int (Int32.ofInt (h.2.2.2.1 o j)))) hcellT (fun k h => by cases h) (fun h => by cases h) hnm f2 f3
    (fun i v hv => by
      have hk' : T.vm.classes[TY 20]? = some kA := hkA
      have hft : fits .int v = true := va_fit (fun i _ => rfl) i v hv
      simpa [State.fitsSlot, State.slotType?, arrV, hk', hkind, av_ft] using hft)
    (g := F0 m pc ls (.ref (s0.heap.size + o) :: r.map (av_ev s0.heap.size kr))) rfl (hL.1.trans C.2.2.1.symm) rfl (by rw [C.2.1]; exact hd) hfr (by show 2 * 0 + _ + 14 ≤ _; rw [av_cats]; omega) hroom.1 (by rw [arrV_size]; exact hroom.2) (hloader := Vm.clonesLoader_of_array hkS hkindS)
  have hcE : ({ cls := (arrV (TY 20) (h.2.2.1 o).2 (fun j => .int (Int32.ofInt (h.2.2.2.1 o j)))).cls, slots := (arrV (TY 20) (h.2.2.1 o).2 (fun j => .int (Int32.ofInt (h.2.2.2.1 o j)))).slots } : Cell) = arrV (TY 20) (h.2.2.1 o).2 (fun j => .int (Int32.ofInt (h.2.2.2.1 o j))) := rfl
  rw [hcE, arrV_size] at X'
  have hR' : av_R s0 D TY sc (av_newN 20 (h.2.2.1 o).2 (h.2.2.2.1 o) h) (H.push (arrV (TY 20) (h.2.2.1 o).2 (fun j => .int (Int32.ofInt (h.2.2.2.1 o j))))) := by
    refine av_R_new hR (Array.size_push _) (fun q hq => by rw [Array.getElem?_push, if_neg (Nat.ne_of_lt hq)]) rfl rfl (fun q hq => ⟨av_u1_ne hq, av_u1_ne hq, rfl, rfl, rfl⟩) ?_
    unfold av_at
    simp only [av_newN, av_u1_self]
    rw [if_neg (by omega), if_pos (by omega), ← hsz, Array.getElem?_push_size]
  have kk := k _ locs ls hR' hl hL (by simp only [av_newN]; omega) (by simp only [av_newN]; omega)
  have g1 : (av_newN 20 (h.2.2.1 o).2 (h.2.2.2.1 o) h).1 - h0.1 = h.1 - h0.1 + 1 := by simp only [av_newN]; omega
  have g2 : (av_newN 20 (h.2.2.1 o).2 (h.2.2.2.1 o) h).2.1 - h0.2.1 = h.2.1 - h0.2.1 + (h.2.2.1 o).2 := by simp only [av_newN]; omega
  rw [g1, g2] at kk
  obtain ⟨t, b1, b2⟩ := kk ((T.setVm vm').pushCell (arrV (TY 20) (h.2.2.1 o).2 (fun j => .int (Int32.ofInt (h.2.2.2.1 o j))))) (by rw [← hT]; rfl) X'
  refine ⟨t, st' t ?_, b2⟩
  rw [hcE, hT, hsz]
  exact b1
end AVB
end
section
/-! CALLS: what a call needs of the tables, out of the start's words; the literals' members -/
section AVC
variable {p : Program} {l : Launch} {e : Env} {R : Room} {s : State} {m : MethodId} {args : Array Value} {below : List Frame} {meth : Method} {c : Code} {Q : State → Prop}
variable {a0 : Array Value} {s0 : State} {H : Heap} {locs : List Loc} {cells slots : Nat}
theorem av_go {w : Cond} (hZ : ∀ w ∈ lw_tbl, w.before a0 s0 = true) (hW : s0.WarmedH s.vm) (hw : w ∈ lw_tbl) (hg : (w.onTables && w.keeps) = true) : w.before args s = true := word_at hW (Or.inl hg) (hZ w hw)
theorem av_CB {own : String} {idx maxL n mc ms : Nat} {y : MethodName} {bytes : ByteArray} {ret : Option FieldType} {rm : Room} (hZ : ∀ w ∈ lw_tbl, w.before a0 s0 = true) (hW : s0.WarmedH s.vm) (hrc : rm.cells = mc) (hrs : rm.slots = ms) (hfr : rm.frames + 1 ≤ R.frames) (hlo : 8 + (maxL + 11) + rm.locals ≤ R.locals)
    (hco : Cond.code y bytes maxL ret ∈ lw_tbl) (hini : Cond.initialized y.cls ∈ lw_tbl) (hlk : Cond.methodLink own idx y ∈ lw_tbl) (hy : y.cls ≠ "java/lang/invoke/MethodHandle" ∧ y.cls ≠ "java/lang/invoke/VarHandle") (hn : (parseMethodDescriptor y.desc).map (fun d => d.parameters.length) = some n) :
    CallB R s args own idx y bytes maxL ret [Cond.code y bytes maxL ret] rm mc ms n := by
  refine ⟨hrc, hrs, hfr, hlo, fun w hw a' U hU => ?_, List.mem_cons_self, av_go hZ hW hco rfl, av_go hZ hW hini rfl, hy, fun sig h => ?_, av_go hZ hW hlk rfl⟩
  · rw [List.mem_singleton.mp hw]
    exact av_go hZ (State.WarmedH.trans hW hU) hco rfl
  · rw [h] at hn
    exact (Option.some.inj hn).symm
theorem av_CN {own host : String} {idx maxL n mc ms : Nat} {y : MethodName} {bytes : ByteArray} {ret : Option FieldType} {rm : Room} (hZ : ∀ w ∈ lw_tbl, w.before a0 s0 = true) (hW : s0.WarmedH s.vm) (hrc : rm.cells = mc) (hrs : rm.slots = ms) (hfr : rm.frames + 1 ≤ R.frames) (hlo : 8 + (maxL + 11) + rm.locals ≤ R.locals)
    (hco : Cond.code y bytes maxL ret ∈ lw_tbl) (hini : Cond.initialized y.cls ∈ lw_tbl) (hlk : Cond.methodLinkNest own idx y host ∈ lw_tbl) (hy : y.cls ≠ "java/lang/invoke/MethodHandle" ∧ y.cls ≠ "java/lang/invoke/VarHandle") (hn : (parseMethodDescriptor y.desc).map (fun d => d.parameters.length) = some n) :
    va_CN R s args own idx y host bytes maxL ret [Cond.code y bytes maxL ret] rm mc ms n := by
  refine ⟨⟨hrc, hrs, hfr, hlo, fun w hw a' U hU => ?_, List.mem_cons_self⟩, av_go hZ hW hco rfl, av_go hZ hW hini rfl, hy, fun sig h => ?_, va_Nw.use rfl (va_Nw.warmM hW (va_Nw.of rfl (hZ _ hlk)))⟩
  · rw [List.mem_singleton.mp hw]
    exact av_go hZ (State.WarmedH.trans hW hU) hco rfl
  · rw [h] at hn
    exact (Option.some.inj hn).symm
/-- a call that changes no cell -/
theorem av_callN {g : JFrame} {rest : List Value} {Qa : State → Outcome → State → Prop} {free : Addr → Prop} (v : Option Value) (hr : va_Run p l e R s m args below meth c H locs cells slots 0 0 g rest Qa free) (hq : ∀ (st : State) (o : Outcome) (t : State), Qa st o t → o = .returned v ∧ t.heap = st.heap) (hf : ∀ q, ¬ free q)
    (kk : W p l e R s m args below meth c H locs cells slots Q { g with pc := g.pc + 3, stack := v.toList ++ rest }) : W p l e R s m args below meth c H locs cells slots Q g := by
  intro T hT X
  obtain ⟨v', st₀, t, T', L, e0, X', hL, e1, e2, hqa, st⟩ := hr T hT X
  obtain ⟨hv, hh⟩ := hq _ _ _ hqa
  cases hv
  have hLn : L = [] := by
    cases L with
    | nil => rfl
    | cons x xs => exact absurd (hL x List.mem_cons_self) (hf _)
  subst hLn
  rw [List.append_nil] at X'
  obtain ⟨t2, a1, b1⟩ := kk T' (by rw [e1, hh, e0]) X'
  exact ⟨t2, st t2 a1, b1⟩
/-- nothing of the start's own cells has changed -/
def av_O (s0 U : State) : Prop := s0.WarmedH U.vm ∧ ∀ q : Nat, q < s0.heap.size → U.heap[q]? = s0.heap[q]?
def av_rm (f n : Nat) : Room := { frames := f, cells := 0, slots := 0, locals := n }
theorem av_blind {P : Array Value → Prop} : FrameBlind (fun a U => P a ∧ av_O s0 U) := fun _ _ _ _ h => h
end AVC
end
section
/-! THE LITERALS: length() and charAt(int) of a String that the class file holds -/
def av_Str (s0 : State) (kr ad : Nat → Nat) : Prop :=
  (∀ k : Nat, k < 20 → va_O "java/lang/String" (kr k) (fun q => s0.heap.size ≤ q) s0 s0.heap ∧ va_OF "java/lang/String" "coder" "B" (.int 0) (kr k) (fun q => s0.heap.size ≤ q) s0 s0.heap ∧ va_OF "java/lang/String" "value" "[B" (.ref (ad k)) (kr k) (fun q => s0.heap.size ≤ q) s0 s0.heap ∧ va_T .byte (ad k) (av_lit k).length (fun j => .int (Int32.ofInt ((av_lit k).getD j 0))) (fun q => s0.heap.size ≤ q) s0 s0.heap) ∧
  va_Z "java/lang/String" "COMPACT_STRINGS" "Z" (.int 1) (fun q => s0.heap.size ≤ q) s0 s0.heap ∧ va_Zq "jdk/internal/util/Preconditions" "SIOOBE_FORMATTER" "Ljava/util/function/BiFunction;" (fun q => s0.heap.size ≤ q) s0 s0.heap
theorem av_ascii : ∀ k, k < 20 → ((av_lit k).length < 2 ^ 31 ∧ ∀ j, j < (av_lit k).length → Int32.ofInt ((av_lit k).getD j 0) &&& 255 = Int32.ofInt ((av_lit k).getD j 0)) := by decide +kernel
abbrev sm_c_pre : ByteArray := prog_19_method_11_code
abbrev sm_y_pre : MethodName := ⟨"jdk/internal/util/Preconditions", "checkIndex", "(IILjava/util/function/BiFunction;)I"⟩
abbrev sm_w_pre : List Cond := [Cond.code sm_y_pre sm_c_pre 3 (some .int)]
abbrev sm_c_ck : ByteArray := prog_14_method_155_code
abbrev sm_y_ck : MethodName := ⟨"java/lang/String", "checkIndex", "(II)V"⟩
abbrev sm_w_ck : List Cond := [Cond.code sm_y_ck sm_c_ck 2 none]
abbrev sm_c_l1 : ByteArray := prog_15_method_2_code
abbrev sm_y_l1 : MethodName := ⟨"java/lang/StringLatin1", "charAt", "([BI)C"⟩
abbrev sm_w_l1 : List Cond := [Cond.code sm_y_l1 sm_c_l1 2 (some .char)]
abbrev sm_c_lat : ByteArray := prog_14_method_154_code
abbrev sm_y_lat : MethodName := ⟨"java/lang/String", "isLatin1", "()Z"⟩
abbrev sm_w_lat : List Cond := [Cond.code sm_y_lat sm_c_lat 1 (some .boolean)]
abbrev sm_c_cod : ByteArray := prog_14_method_152_code
abbrev sm_y_cod : MethodName := ⟨"java/lang/String", "coder", "()B"⟩
abbrev sm_w_cod : List Cond := [Cond.code sm_y_cod sm_c_cod 1 (some .byte)]
abbrev sm_c_len : ByteArray := prog_14_method_54_code
abbrev sm_y_len : MethodName := ⟨"java/lang/String", "length", "()I"⟩
abbrev sm_w_len : List Cond := [Cond.code sm_y_len sm_c_len 1 (some .int)]
abbrev sm_c_chr : ByteArray := prog_14_method_56_code
abbrev sm_y_chr : MethodName := ⟨"java/lang/String", "charAt", "(I)C"⟩
abbrev sm_w_chr : List Cond := [Cond.code sm_y_chr sm_c_chr 2 (some .char)]
theorem sm_d_pre_0 : decode sm_c_pre 0 = .ok (.iload_n 0, 1) := by decide +kernel
theorem sm_d_pre_1 : decode sm_c_pre 1 = .ok (.ifCond .lt 8, 3) := by decide +kernel
theorem sm_d_pre_4 : decode sm_c_pre 4 = .ok (.iload_n 0, 1) := by decide +kernel
theorem sm_d_pre_5 : decode sm_c_pre 5 = .ok (.iload_n 1, 1) := by decide +kernel
theorem sm_d_pre_6 : decode sm_c_pre 6 = .ok (.if_icmp .lt 10, 3) := by decide +kernel
theorem sm_d_pre_9 : decode sm_c_pre 9 = .ok (.aload_n 2, 1) := by decide +kernel
theorem sm_d_pre_10 : decode sm_c_pre 10 = .ok (.iload_n 0, 1) := by decide +kernel
theorem sm_d_pre_11 : decode sm_c_pre 11 = .ok (.iload_n 1, 1) := by decide +kernel
theorem sm_d_pre_12 : decode sm_c_pre 12 = .ok (.invokestatic 95, 3) := by decide +kernel
theorem sm_d_pre_15 : decode sm_c_pre 15 = .ok (.athrow, 1) := by decide +kernel
theorem sm_d_pre_16 : decode sm_c_pre 16 = .ok (.iload_n 0, 1) := by decide +kernel
theorem sm_d_pre_17 : decode sm_c_pre 17 = .ok (.ireturn, 1) := by decide +kernel
theorem sm_d_ck_0 : decode sm_c_ck 0 = .ok (.iload_n 0, 1) := by decide +kernel
theorem sm_d_ck_1 : decode sm_c_ck 1 = .ok (.iload_n 1, 1) := by decide +kernel
theorem sm_d_ck_2 : decode sm_c_ck 2 = .ok (.getstatic 1053, 3) := by decide +kernel
theorem sm_d_ck_5 : decode sm_c_ck 5 = .ok (.invokestatic 1059, 3) := by decide +kernel
theorem sm_d_ck_8 : decode sm_c_ck 8 = .ok (.pop, 1) := by decide +kernel
theorem sm_d_ck_9 : decode sm_c_ck 9 = .ok (.return_, 1) := by decide +kernel
theorem sm_d_l1_0 : decode sm_c_l1 0 = .ok (.iload_n 1, 1) := by decide +kernel
theorem sm_d_l1_1 : decode sm_c_l1 1 = .ok (.aload_n 0, 1) := by decide +kernel
theorem sm_d_l1_2 : decode sm_c_l1 2 = .ok (.arraylength, 1) := by decide +kernel
theorem sm_d_l1_3 : decode sm_c_l1 3 = .ok (.invokestatic 9, 3) := by decide +kernel
theorem sm_d_l1_6 : decode sm_c_l1 6 = .ok (.aload_n 0, 1) := by decide +kernel
theorem sm_d_l1_7 : decode sm_c_l1 7 = .ok (.iload_n 1, 1) := by decide +kernel
theorem sm_d_l1_8 : decode sm_c_l1 8 = .ok (.baload, 1) := by decide +kernel
theorem sm_d_l1_9 : decode sm_c_l1 9 = .ok (.sipush 255, 3) := by decide +kernel
theorem sm_d_l1_12 : decode sm_c_l1 12 = .ok (.iand, 1) := by decide +kernel
theorem sm_d_l1_13 : decode sm_c_l1 13 = .ok (.i2c, 1) := by decide +kernel
theorem sm_d_l1_14 : decode sm_c_l1 14 = .ok (.ireturn, 1) := by decide +kernel
theorem sm_d_lat_0 : decode sm_c_lat 0 = .ok (.getstatic 38, 3) := by decide +kernel
theorem sm_d_lat_3 : decode sm_c_lat 3 = .ok (.ifCond .eq 14, 3) := by decide +kernel
theorem sm_d_lat_6 : decode sm_c_lat 6 = .ok (.aload_n 0, 1) := by decide +kernel
theorem sm_d_lat_7 : decode sm_c_lat 7 = .ok (.getfield 15, 3) := by decide +kernel
theorem sm_d_lat_10 : decode sm_c_lat 10 = .ok (.ifCond .ne 7, 3) := by decide +kernel
theorem sm_d_lat_13 : decode sm_c_lat 13 = .ok (.iconst 1, 1) := by decide +kernel
theorem sm_d_lat_14 : decode sm_c_lat 14 = .ok (.goto 4, 3) := by decide +kernel
theorem sm_d_lat_17 : decode sm_c_lat 17 = .ok (.iconst 0, 1) := by decide +kernel
theorem sm_d_lat_18 : decode sm_c_lat 18 = .ok (.ireturn, 1) := by decide +kernel
theorem sm_d_cod_0 : decode sm_c_cod 0 = .ok (.getstatic 38, 3) := by decide +kernel
theorem sm_d_cod_3 : decode sm_c_cod 3 = .ok (.ifCond .eq 10, 3) := by decide +kernel
theorem sm_d_cod_6 : decode sm_c_cod 6 = .ok (.aload_n 0, 1) := by decide +kernel
theorem sm_d_cod_7 : decode sm_c_cod 7 = .ok (.getfield 15, 3) := by decide +kernel
theorem sm_d_cod_10 : decode sm_c_cod 10 = .ok (.goto 4, 3) := by decide +kernel
theorem sm_d_cod_13 : decode sm_c_cod 13 = .ok (.iconst 1, 1) := by decide +kernel
theorem sm_d_cod_14 : decode sm_c_cod 14 = .ok (.ireturn, 1) := by decide +kernel
theorem sm_d_len_0 : decode sm_c_len 0 = .ok (.aload_n 0, 1) := by decide +kernel
theorem sm_d_len_1 : decode sm_c_len 1 = .ok (.getfield 9, 3) := by decide +kernel
theorem sm_d_len_4 : decode sm_c_len 4 = .ok (.arraylength, 1) := by decide +kernel
theorem sm_d_len_5 : decode sm_c_len 5 = .ok (.aload_n 0, 1) := by decide +kernel
theorem sm_d_len_6 : decode sm_c_len 6 = .ok (.invokevirtual 335, 3) := by decide +kernel
theorem sm_d_len_9 : decode sm_c_len 9 = .ok (.ishr, 1) := by decide +kernel
theorem sm_d_len_10 : decode sm_c_len 10 = .ok (.ireturn, 1) := by decide +kernel
theorem sm_d_chr_0 : decode sm_c_chr 0 = .ok (.aload_n 0, 1) := by decide +kernel
theorem sm_d_chr_1 : decode sm_c_chr 1 = .ok (.invokevirtual 492, 3) := by decide +kernel
theorem sm_d_chr_4 : decode sm_c_chr 4 = .ok (.ifCond .eq 12, 3) := by decide +kernel
theorem sm_d_chr_7 : decode sm_c_chr 7 = .ok (.aload_n 0, 1) := by decide +kernel
theorem sm_d_chr_8 : decode sm_c_chr 8 = .ok (.getfield 9, 3) := by decide +kernel
theorem sm_d_chr_11 : decode sm_c_chr 11 = .ok (.iload_n 1, 1) := by decide +kernel
theorem sm_d_chr_12 : decode sm_c_chr 12 = .ok (.invokestatic 495, 3) := by decide +kernel
theorem sm_d_chr_15 : decode sm_c_chr 15 = .ok (.ireturn, 1) := by decide +kernel
theorem sm_d_chr_16 : decode sm_c_chr 16 = .ok (.aload_n 0, 1) := by decide +kernel
theorem sm_d_chr_17 : decode sm_c_chr 17 = .ok (.getfield 9, 3) := by decide +kernel
theorem sm_d_chr_20 : decode sm_c_chr 20 = .ok (.iload_n 1, 1) := by decide +kernel
theorem sm_d_chr_21 : decode sm_c_chr 21 = .ok (.invokestatic 498, 3) := by decide +kernel
theorem sm_d_chr_24 : decode sm_c_chr 24 = .ok (.ireturn, 1) := by decide +kernel
set_option maxRecDepth 100000 in
set_option maxHeartbeats 4000000 in
theorem sm_pre (l : Launch) {a0 : Array Value} {s0 : State} {kr ad : Nat → Nat} (hZ : ∀ w ∈ lw_tbl, w.before a0 s0 = true) (hS : av_Str s0 kr ad) {i n : Int32} {r : Option Nat} (hin : vp_in i n.toNatClampNeg) (hnn : ¬ n < 0) : Met l sm_y_pre sm_w_pre (av_rm 0 0) (fun a U => a = ([.int i, .int n, va_rf r] : List Value).toArray ∧ av_O s0 U) (fun _ st o t => o = .returned (some (.int i)) ∧ t.heap = st.heap) 0 0 (fun _ => False) := by
  refine Met.ofW (cc := sm_c_pre) (maxL := 3) (ret := (some .int)) (by decide) rfl ?_
  intro p e s m args below meth c s₁ B hml hv
  obtain ⟨rfl, hO⟩ := hv
  have hx := B.exec
  have hb := B.bytes
  have hr := B.returns
  have hown : s.vm.findClass "jdk/internal/util/Preconditions" = some m.cls := findClass_of_methodNamed B.named
  have hlocks := B.notSynchronized
  have hW := hO.1
  have hkp : ∀ a : Nat, a < s0.heap.size → ¬ (fun q => s0.heap.size ≤ q) a → s.heap[a]? = s0.heap[a]? := fun a ha _ => hO.2 a ha
  have hl := lv_entry ([.int i, .int n, va_rf r]) (n := 3) (by cases r <;> exact Nat.le_of_ble_eq_true rfl)
  rw [lg_entry_eq]
  generalize (lg_sl ([.int i, .int n, va_rf r]) ++ List.replicate (3 - (lg_sl ([.int i, .int n, va_rf r])).length) Slot.unset).toArray = ls at hl ⊢
  have h1 : ls[0]? = some (.val (.int i)) := hl.2.2 (0, .int i) (by simp [lv_args, Value.category])
  have h2 : ls[1]? = some (.val (.int n)) := hl.2.2 (1, .int n) (by simp [lv_args, Value.category])
  refine lv_iload_n hx hb sm_d_pre_0 rfl h1 ?_
  refine lv_if_lt (tgt := 9) hx hb sm_d_pre_1 (by decide) (fun q => absurd (Or.inl q) hin) (fun _ => ?_)
  refine lv_iload_n hx hb sm_d_pre_4 rfl h1 ?_
  refine lv_iload_n hx hb sm_d_pre_5 rfl h2 ?_
  refine lv_icmp_lt (tgt := 16) hx hb sm_d_pre_6 (by decide) (fun _ => ?_) (fun q => ?_)
  · refine lv_iload_n hx hb sm_d_pre_16 rfl h1 ?_
    exact W.iret hx hb hr (fun t ht _ => ⟨rfl, ht⟩) (fun q h => by cases h) sm_d_pre_17
  · exfalso
    apply q
    have e1 := vp_in_iff.mp hin
    rw [Int32.lt_iff_toInt_lt]
    have e2 : ((n.toNatClampNeg : Nat) : Int) = n.toInt := by
      have := Int32.not_lt.mp hnn
      rw [Int32.le_iff_toInt_le] at this
      show ((n.toInt.toNat : Nat) : Int) = n.toInt
      have h0 : (0 : Int32).toInt = 0 := rfl
      omega
    omega
set_option maxRecDepth 100000 in
set_option maxHeartbeats 4000000 in
theorem sm_ck (l : Launch) {a0 : Array Value} {s0 : State} {kr ad : Nat → Nat} (hZ : ∀ w ∈ lw_tbl, w.before a0 s0 = true) (hS : av_Str s0 kr ad) {i n : Int32} (hin : vp_in i n.toNatClampNeg) (hnn : ¬ n < 0) : Met l sm_y_ck sm_w_ck (av_rm 1 30) (fun a U => a = ([.int i, .int n] : List Value).toArray ∧ av_O s0 U) (fun _ st o t => o = .returned none ∧ t.heap = st.heap) 0 0 (fun _ => False) := by
  refine Met.ofW (cc := sm_c_ck) (maxL := 2) (ret := none) (by decide) rfl ?_
  intro p e s m args below meth c s₁ B hml hv
  obtain ⟨rfl, hO⟩ := hv
  have hx := B.exec
  have hb := B.bytes
  have hr := B.returns
  have hown : s.vm.findClass "java/lang/String" = some m.cls := findClass_of_methodNamed B.named
  have hlocks := B.notSynchronized
  have hW := hO.1
  have hkp : ∀ a : Nat, a < s0.heap.size → ¬ (fun q => s0.heap.size ≤ q) a → s.heap[a]? = s0.heap[a]? := fun a ha _ => hO.2 a ha
  have hl := lv_entry ([.int i, .int n]) (n := 2) (Nat.le_of_ble_eq_true rfl)
  rw [lg_entry_eq]
  generalize (lg_sl ([.int i, .int n]) ++ List.replicate (2 - (lg_sl ([.int i, .int n])).length) Slot.unset).toArray = ls at hl ⊢
  have h1 : ls[0]? = some (.val (.int i)) := hl.2.2 (0, .int i) (by simp [lv_args, Value.category])
  have h2 : ls[1]? = some (.val (.int n)) := hl.2.2 (1, .int n) (by simp [lv_args, Value.category])
  refine lv_iload_n hx hb sm_d_ck_0 rfl h1 ?_
  refine lv_iload_n hx hb sm_d_ck_1 rfl h2 ?_
  have go : ∀ r : Option Nat, va_Z "jdk/internal/util/Preconditions" "SIOOBE_FORMATTER" "Ljava/util/function/BiFunction;" (va_rf r) (fun q => s0.heap.size ≤ q) s s.heap → W p l e (headSpec sm_w_ck (av_rm 1 30)).room s m ([.int i, .int n] : List Value).toArray below meth c s.heap [] 0 0 (MQ below (fun _ st o t => o = .returned none ∧ t.heap = st.heap) ([.int i, .int n] : List Value).toArray s 0 0 (fun _ => False)) (F0 m 2 ls [.int n, .int i]) := by
    intro r hz
    refine va_gets hx hb hz va_S.rf hown (av_go hZ hW (av_mem (i := 398) rfl) rfl) (fun x hx => hx) sm_d_ck_2 ?_
    refine av_callN (some (.int i)) (va_runS (As := [.int i, .int n, va_rf r]) (rest := []) (Ts := []) ⟨hx, hb, hml, hown, fun w hw => by cases hw⟩ (sm_pre l hZ hS hin hnn) ⟨av_CB (n := 3) hZ hW rfl rfl (by decide) (by decide) (av_mem (i := 402) rfl) (av_mem (i := 15) rfl) (av_mem (i := 400) rfl) (by decide) (by decide +kernel), av_go hZ hW (av_mem (i := 401) rfl) rfl⟩ ⟨av_blind, fun U hU hWU => ⟨rfl, State.WarmedH.trans hW hWU, fun q hq => by rw [hU]; exact hO.2 q hq⟩⟩ rfl rfl hl.1 rfl (lv_room (by simp)) sm_d_ck_5 ⟨Nat.le_refl _, Nat.le_refl _⟩) (fun st o t hq => hq) (fun q h => h) ?_
    refine lv_pop hx hb sm_d_ck_8 rfl ?_
    exact W.vret hx hb hr (fun t ht _ => ⟨rfl, ht⟩) (fun q h => by cases h) sm_d_ck_9
  rcases (hS.2.2.moved hW.alike).kept hkp with hz | ⟨t, hz⟩
  · exact go none hz
  · exact go (some t) hz
set_option maxRecDepth 100000 in
set_option maxHeartbeats 4000000 in
theorem sm_l1 (l : Launch) {a0 : Array Value} {s0 : State} {kr ad : Nat → Nat} (hZ : ∀ w ∈ lw_tbl, w.before a0 s0 = true) (hS : av_Str s0 kr ad) {i : Int32} {k : Nat} (hk : k < 20) (hin : vp_in i (av_lit k).length) : Met l sm_y_l1 sm_w_l1 (av_rm 2 60) (fun a U => a = ([.ref (ad k), .int i] : List Value).toArray ∧ av_O s0 U) (fun _ st o t => o = .returned (some (.int (Int32.ofInt ((av_lit k).getD i.toNatClampNeg 0)))) ∧ t.heap = st.heap) 0 0 (fun _ => False) := by
  refine Met.ofW (cc := sm_c_l1) (maxL := 2) (ret := (some .char)) (by decide) rfl ?_
  intro p e s m args below meth c s₁ B hml hv
  obtain ⟨rfl, hO⟩ := hv
  have hx := B.exec
  have hb := B.bytes
  have hr := B.returns
  have hown : s.vm.findClass "java/lang/StringLatin1" = some m.cls := findClass_of_methodNamed B.named
  have hlocks := B.notSynchronized
  have hW := hO.1
  have hkp : ∀ a : Nat, a < s0.heap.size → ¬ (fun q => s0.heap.size ≤ q) a → s.heap[a]? = s0.heap[a]? := fun a ha _ => hO.2 a ha
  have hl := lv_entry ([.ref (ad k), .int i]) (n := 2) (Nat.le_of_ble_eq_true rfl)
  rw [lg_entry_eq]
  generalize (lg_sl ([.ref (ad k), .int i]) ++ List.replicate (2 - (lg_sl ([.ref (ad k), .int i])).length) Slot.unset).toArray = ls at hl ⊢
  have h1 : ls[0]? = some (.val (.ref (ad k))) := hl.2.2 (0, .ref (ad k)) (by simp [lv_args, Value.category])
  have h2 : ls[1]? = some (.val (.int i)) := hl.2.2 (1, .int i) (by simp [lv_args, Value.category])
  have hT := ((hS.1 k hk).2.2.2.moved hW.alike).kept hkp
  obtain ⟨cell, g1, g2, g3, g4, g5, g6, g7⟩ := id hT
  obtain ⟨hlen, has⟩ := av_ascii k hk
  have hlt : i.toNatClampNeg < (av_lit k).length := Nat.not_le.mp fun q => hin (Or.inr q)
  have hcl : (nI (av_lit k).length).toNatClampNeg = (av_lit k).length := nI_clamp hlen
  refine lv_iload_n hx hb sm_d_l1_0 rfl h2 ?_
  refine lv_aload_n hx hb sm_d_l1_1 rfl h1 ?_
  refine W.alen hx hb g1 g2 g5 rfl rfl sm_d_l1_2 ?_
  refine av_callN none (va_runS (As := [.int i, .int (nI (av_lit k).length)]) (rest := []) (Ts := []) ⟨hx, hb, hml, hown, fun w hw => by cases hw⟩ (sm_ck l hZ hS (by rw [hcl]; exact hin) (nI_pos hlen)) ⟨av_CB (n := 2) hZ hW rfl rfl (by decide) (by decide) (av_mem (i := 397) rfl) (av_mem (i := 13) rfl) (av_mem (i := 395) rfl) (by decide) (by decide +kernel), av_go hZ hW (av_mem (i := 396) rfl) rfl⟩ ⟨av_blind, fun U hU hWU => ⟨rfl, State.WarmedH.trans hW hWU, fun q hq => by rw [hU]; exact hO.2 q hq⟩⟩ rfl rfl hl.1 rfl (lv_room (by simp)) sm_d_l1_3 ⟨Nat.le_refl _, Nat.le_refl _⟩) (fun st o t hq => hq) (fun q h => h) ?_
  refine lv_aload_n hx hb sm_d_l1_6 rfl h1 ?_
  refine lv_iload_n hx hb sm_d_l1_7 rfl h2 ?_
  refine va_tb hx hb hT va_S.rf hin rfl sm_d_l1_8 ?_
  refine lv_sipush (v := 255) hx hb sm_d_l1_9 (by decide) ?_
  refine lv_iand hx hb sm_d_l1_12 ?_
  refine lv_i2c hx hb sm_d_l1_13 (sc_c2 _) ?_
  have e1 := has _ hlt
  rw [e1]
  exact W.zret hx hb hr (by rw [← e1]; exact sc_nar _) (fun t ht _ => ⟨rfl, ht⟩) (fun q h => by cases h) sm_d_l1_14
set_option maxRecDepth 100000 in
set_option maxHeartbeats 4000000 in
theorem sm_lat (l : Launch) {a0 : Array Value} {s0 : State} {kr ad : Nat → Nat} (hZ : ∀ w ∈ lw_tbl, w.before a0 s0 = true) (hS : av_Str s0 kr ad) {k : Nat} (hk : k < 20) : Met l sm_y_lat sm_w_lat (av_rm 0 0) (fun a U => a = ([.ref (kr k)] : List Value).toArray ∧ av_O s0 U) (fun _ st o t => o = .returned (some (.int 1)) ∧ t.heap = st.heap) 0 0 (fun _ => False) := by
  refine Met.ofW (cc := sm_c_lat) (maxL := 1) (ret := (some .boolean)) (by decide) rfl ?_
  intro p e s m args below meth c s₁ B hml hv
  obtain ⟨rfl, hO⟩ := hv
  have hx := B.exec
  have hb := B.bytes
  have hr := B.returns
  have hown : s.vm.findClass "java/lang/String" = some m.cls := findClass_of_methodNamed B.named
  have hlocks := B.notSynchronized
  have hW := hO.1
  have hkp : ∀ a : Nat, a < s0.heap.size → ¬ (fun q => s0.heap.size ≤ q) a → s.heap[a]? = s0.heap[a]? := fun a ha _ => hO.2 a ha
  have hl := lv_entry ([.ref (kr k)]) (n := 1) (Nat.le_of_ble_eq_true rfl)
  rw [lg_entry_eq]
  generalize (lg_sl ([.ref (kr k)]) ++ List.replicate (1 - (lg_sl ([.ref (kr k)])).length) Slot.unset).toArray = ls at hl ⊢
  have h1 : ls[0]? = some (.val (.ref (kr k))) := hl.2.2 (0, .ref (kr k)) (by simp [lv_args, Value.category])
  refine va_gets hx hb ((hS.2.1.moved hW.alike).kept hkp) va_S.rf hown (av_go hZ hW (av_mem (i := 382) rfl) rfl) (fun x hx => hx) sm_d_lat_0 ?_
  refine lv_if_eq (tgt := 17) hx hb sm_d_lat_3 (by decide) (fun q => by cases q) (fun _ => ?_)
  refine lv_aload_n hx hb sm_d_lat_6 rfl h1 ?_
  refine vk_getf hx hb (((hS.1 k hk).2.1.moved hW.alike).kept hkp) va_S.rf hown (av_go hZ hW (av_mem (i := 1509) rfl) rfl) (fun x hx => hx) sm_d_lat_7 ?_
  refine lv_if_ne (tgt := 17) hx hb sm_d_lat_10 (by decide) (fun q => absurd rfl q) (fun _ => ?_)
  refine lv_iconst (v := 1) hx hb sm_d_lat_13 (by decide) ?_
  refine lv_goto (tgt := 18) hx hb sm_d_lat_14 (by decide) ?_
  exact W.zret hx hb hr (by decide) (fun t ht _ => ⟨rfl, ht⟩) (fun q h => by cases h) sm_d_lat_18
set_option maxRecDepth 100000 in
set_option maxHeartbeats 4000000 in
theorem sm_cod (l : Launch) {a0 : Array Value} {s0 : State} {kr ad : Nat → Nat} (hZ : ∀ w ∈ lw_tbl, w.before a0 s0 = true) (hS : av_Str s0 kr ad) {k : Nat} (hk : k < 20) : Met l sm_y_cod sm_w_cod (av_rm 0 0) (fun a U => a = ([.ref (kr k)] : List Value).toArray ∧ av_O s0 U) (fun _ st o t => o = .returned (some (.int 0)) ∧ t.heap = st.heap) 0 0 (fun _ => False) := by
  refine Met.ofW (cc := sm_c_cod) (maxL := 1) (ret := (some .byte)) (by decide) rfl ?_
  intro p e s m args below meth c s₁ B hml hv
  obtain ⟨rfl, hO⟩ := hv
  have hx := B.exec
  have hb := B.bytes
  have hr := B.returns
  have hown : s.vm.findClass "java/lang/String" = some m.cls := findClass_of_methodNamed B.named
  have hlocks := B.notSynchronized
  have hW := hO.1
  have hkp : ∀ a : Nat, a < s0.heap.size → ¬ (fun q => s0.heap.size ≤ q) a → s.heap[a]? = s0.heap[a]? := fun a ha _ => hO.2 a ha
  have hl := lv_entry ([.ref (kr k)]) (n := 1) (Nat.le_of_ble_eq_true rfl)
  rw [lg_entry_eq]
  generalize (lg_sl ([.ref (kr k)]) ++ List.replicate (1 - (lg_sl ([.ref (kr k)])).length) Slot.unset).toArray = ls at hl ⊢
  have h1 : ls[0]? = some (.val (.ref (kr k))) := hl.2.2 (0, .ref (kr k)) (by simp [lv_args, Value.category])
  refine va_gets hx hb ((hS.2.1.moved hW.alike).kept hkp) va_S.rf hown (av_go hZ hW (av_mem (i := 382) rfl) rfl) (fun x hx => hx) sm_d_cod_0 ?_
  refine lv_if_eq (tgt := 13) hx hb sm_d_cod_3 (by decide) (fun q => by cases q) (fun _ => ?_)
  refine lv_aload_n hx hb sm_d_cod_6 rfl h1 ?_
  refine vk_getf hx hb (((hS.1 k hk).2.1.moved hW.alike).kept hkp) va_S.rf hown (av_go hZ hW (av_mem (i := 1509) rfl) rfl) (fun x hx => hx) sm_d_cod_7 ?_
  refine lv_goto (tgt := 14) hx hb sm_d_cod_10 (by decide) ?_
  exact W.zret hx hb hr (by decide) (fun t ht _ => ⟨rfl, ht⟩) (fun q h => by cases h) sm_d_cod_14
set_option maxRecDepth 100000 in
set_option maxHeartbeats 4000000 in
theorem sm_len (l : Launch) {a0 : Array Value} {s0 : State} {kr ad : Nat → Nat} (hZ : ∀ w ∈ lw_tbl, w.before a0 s0 = true) (hS : av_Str s0 kr ad) {k : Nat} (hk : k < 20) : Met l sm_y_len sm_w_len (av_rm 1 30) (fun a U => a = ([.ref (kr k)] : List Value).toArray ∧ av_O s0 U) (fun _ st o t => o = .returned (some (.int (nI (av_lit k).length))) ∧ t.heap = st.heap) 0 0 (fun _ => False) := by
  refine Met.ofW (cc := sm_c_len) (maxL := 1) (ret := (some .int)) (by decide) rfl ?_
  intro p e s m args below meth c s₁ B hml hv
  obtain ⟨rfl, hO⟩ := hv
  have hx := B.exec
  have hb := B.bytes
  have hr := B.returns
  have hown : s.vm.findClass "java/lang/String" = some m.cls := findClass_of_methodNamed B.named
  have hlocks := B.notSynchronized
  have hW := hO.1
  have hkp : ∀ a : Nat, a < s0.heap.size → ¬ (fun q => s0.heap.size ≤ q) a → s.heap[a]? = s0.heap[a]? := fun a ha _ => hO.2 a ha
  have hl := lv_entry ([.ref (kr k)]) (n := 1) (Nat.le_of_ble_eq_true rfl)
  rw [lg_entry_eq]
  generalize (lg_sl ([.ref (kr k)]) ++ List.replicate (1 - (lg_sl ([.ref (kr k)])).length) Slot.unset).toArray = ls at hl ⊢
  have h1 : ls[0]? = some (.val (.ref (kr k))) := hl.2.2 (0, .ref (kr k)) (by simp [lv_args, Value.category])
  have hrc : ∃ cell : Cell, s.heap[kr k]? = some cell ∧ cell.vm.isStatics = false ∧ s.vm.findClass "java/lang/String" = some cell.cls := by
    obtain ⟨cell, r1, r2, r3, -⟩ := ((hS.1 k hk).1.moved hW.alike).kept hkp
    exact ⟨cell, r1, r2, r3⟩
  obtain ⟨cellT, g1, g2, g3, g4, g5, g6, g7⟩ := ((hS.1 k hk).2.2.2.moved hW.alike).kept hkp
  refine lv_aload_n hx hb sm_d_len_0 rfl h1 ?_
  refine vk_getf hx hb (((hS.1 k hk).2.2.1.moved hW.alike).kept hkp) va_S.rf hown (av_go hZ hW (av_mem (i := 1508) rfl) rfl) (fun x hx => hx) sm_d_len_1 ?_
  refine W.alen hx hb g1 g2 g5 rfl rfl sm_d_len_4 ?_
  refine lv_aload_n hx hb sm_d_len_5 rfl h1 ?_
  refine av_callN (some (.int 0)) (va_runV (C := "java/lang/String") (As := []) (rest := [.int (Int32.ofNat (av_lit k).length)]) (Ts := []) ⟨hx, hb, hml, hown, fun w hw => by cases hw⟩ (sm_cod l hZ hS hk) ⟨av_CB (n := 0) hZ hW rfl rfl (by decide) (by decide) (av_mem (i := 381) rfl) (av_mem (i := 13) rfl) (av_mem (i := 378) rfl) (by decide) (by decide +kernel), av_go hZ hW (av_mem (i := 379) rfl) rfl, av_go hZ hW (av_mem (i := 380) rfl) rfl⟩ ⟨av_blind, hrc, fun U hU hWU => ⟨rfl, State.WarmedH.trans hW hWU, fun q hq => by rw [hU]; exact hO.2 q hq⟩⟩ rfl rfl hl.1 rfl (lv_room (by simp [Value.category])) sm_d_len_6 ⟨Nat.le_refl _, Nat.le_refl _⟩) (fun st o t hq => hq) (fun q h => h) ?_
  refine lv_ishr hx hb sm_d_len_9 ?_
  rw [sb_shr0]
  exact W.iret hx hb hr (fun t ht _ => ⟨rfl, ht⟩) (fun q h => by cases h) sm_d_len_10
set_option maxRecDepth 100000 in
set_option maxHeartbeats 4000000 in
theorem sm_chr (l : Launch) {a0 : Array Value} {s0 : State} {kr ad : Nat → Nat} (hZ : ∀ w ∈ lw_tbl, w.before a0 s0 = true) (hS : av_Str s0 kr ad) {i : Int32} {k : Nat} (hk : k < 20) (hin : vp_in i (av_lit k).length) : Met l sm_y_chr sm_w_chr (av_rm 3 90) (fun a U => a = ([.ref (kr k), .int i] : List Value).toArray ∧ av_O s0 U) (fun _ st o t => o = .returned (some (.int (Int32.ofInt ((av_lit k).getD i.toNatClampNeg 0)))) ∧ t.heap = st.heap) 0 0 (fun _ => False) := by
  refine Met.ofW (cc := sm_c_chr) (maxL := 2) (ret := (some .char)) (by decide) rfl ?_
  intro p e s m args below meth c s₁ B hml hv
  obtain ⟨rfl, hO⟩ := hv
  have hx := B.exec
  have hb := B.bytes
  have hr := B.returns
  have hown : s.vm.findClass "java/lang/String" = some m.cls := findClass_of_methodNamed B.named
  have hlocks := B.notSynchronized
  have hW := hO.1
  have hkp : ∀ a : Nat, a < s0.heap.size → ¬ (fun q => s0.heap.size ≤ q) a → s.heap[a]? = s0.heap[a]? := fun a ha _ => hO.2 a ha
  have hl := lv_entry ([.ref (kr k), .int i]) (n := 2) (Nat.le_of_ble_eq_true rfl)
  rw [lg_entry_eq]
  generalize (lg_sl ([.ref (kr k), .int i]) ++ List.replicate (2 - (lg_sl ([.ref (kr k), .int i])).length) Slot.unset).toArray = ls at hl ⊢
  have h1 : ls[0]? = some (.val (.ref (kr k))) := hl.2.2 (0, .ref (kr k)) (by simp [lv_args, Value.category])
  have h2 : ls[1]? = some (.val (.int i)) := hl.2.2 (1, .int i) (by simp [lv_args, Value.category])
  have hrc : ∃ cell : Cell, s.heap[kr k]? = some cell ∧ cell.vm.isStatics = false ∧ s.vm.findClass "java/lang/String" = some cell.cls := by
    obtain ⟨cell, r1, r2, r3, -⟩ := ((hS.1 k hk).1.moved hW.alike).kept hkp
    exact ⟨cell, r1, r2, r3⟩
  refine lv_aload_n hx hb sm_d_chr_0 rfl h1 ?_
  refine av_callN (some (.int 1)) (va_runV (C := "java/lang/String") (As := []) (rest := []) (Ts := []) ⟨hx, hb, hml, hown, fun w hw => by cases hw⟩ (sm_lat l hZ hS hk) ⟨av_CB (n := 0) hZ hW rfl rfl (by decide) (by decide) (av_mem (i := 391) rfl) (av_mem (i := 13) rfl) (av_mem (i := 388) rfl) (by decide) (by decide +kernel), av_go hZ hW (av_mem (i := 389) rfl) rfl, av_go hZ hW (av_mem (i := 390) rfl) rfl⟩ ⟨av_blind, hrc, fun U hU hWU => ⟨rfl, State.WarmedH.trans hW hWU, fun q hq => by rw [hU]; exact hO.2 q hq⟩⟩ rfl rfl hl.1 rfl (lv_room (by simp [Value.category])) sm_d_chr_1 ⟨Nat.le_refl _, Nat.le_refl _⟩) (fun st o t hq => hq) (fun q h => h) ?_
  refine lv_if_eq (tgt := 16) hx hb sm_d_chr_4 rfl (fun q => by cases q) (fun _ => ?_)
  refine lv_aload_n hx hb sm_d_chr_7 rfl h1 ?_
  refine vk_getf hx hb (((hS.1 k hk).2.2.1.moved hW.alike).kept hkp) va_S.rf hown (av_go hZ hW (av_mem (i := 1508) rfl) rfl) (fun x hx => hx) sm_d_chr_8 ?_
  refine lv_iload_n hx hb sm_d_chr_11 rfl h2 ?_
  refine av_callN (some (.int (Int32.ofInt ((av_lit k).getD i.toNatClampNeg 0)))) (va_runS (As := [.ref (ad k), .int i]) (rest := []) (Ts := []) ⟨hx, hb, hml, hown, fun w hw => by cases hw⟩ (sm_l1 l hZ hS hk hin) ⟨av_CB (n := 2) hZ hW rfl rfl (by decide) (by decide) (av_mem (i := 394) rfl) (av_mem (i := 14) rfl) (av_mem (i := 392) rfl) (by decide) (by decide +kernel), av_go hZ hW (av_mem (i := 393) rfl) rfl⟩ ⟨av_blind, fun U hU hWU => ⟨rfl, State.WarmedH.trans hW hWU, fun q hq => by rw [hU]; exact hO.2 q hq⟩⟩ rfl rfl hl.1 rfl (lv_room (by simp)) sm_d_chr_12 ⟨Nat.le_refl _, Nat.le_refl _⟩) (fun st o t hq => hq) (fun q h => h) ?_
  have hlt : i.toNatClampNeg < (av_lit k).length := Nat.not_le.mp fun q => hin (Or.inr q)
  have e1 := (av_ascii k hk).2 _ hlt
  exact W.zret hx hb hr (by rw [← e1]; exact sc_nar _) (fun t ht _ => ⟨rfl, ht⟩) (fun q h => by cases h) sm_d_chr_15
end
section
/-! ONE STEP: length() and charAt(int) of a literal -/
section AVL
variable {p : Program} {l : Launch} {e : Env} {R : Room} {s : State} {m : MethodId} {args : Array Value} {below : List Frame} {meth : Method} {c : Code} {Q : State → Prop}
variable {a0 : Array Value} {s0 : State} {D : va_G} {TY : Nat → ClassId} {kr ad : Nat → Nat} {sc : Nat × (Nat → Int)} {own nL : Nat} {cc : ByteArray} {ini : Bool} {h0 hf h h' : av_H} {pc pc' : Nat} {lv lv' : av_L} {st st' : List av_V}

theorem av_s_len {idx q : Nat}  {r : List av_V} (C : av_Cx p R s m meth c a0 s0 D TY own nL cc ini h0 hf) (hS : av_Str s0 kr ad) (hd : decode cc pc = .ok (.invokevirtual idx, 3)) (hlk : Cond.methodLink (av_cn own) idx sm_y_len ∈ lw_tbl) (hin0 : Cond.instanceMethod sm_y_len ∈ lw_tbl) (hse : Cond.selects "java/lang/String" sm_y_len sm_y_len ∈ lw_tbl) (hco : Cond.code sm_y_len sm_c_len 1 (some .int) ∈ lw_tbl) (hini : Cond.initialized "java/lang/String" ∈ lw_tbl) (hr : (r.map av_cat).sum ≤ 8) (hq : q < 20)  (hfr : 2 ≤ R.frames) (hlo : 60 ≤ R.locals) (hle : h.1 ≤ hf.1 ∧ h.2.1 ≤ hf.2.1) (k : av_W p l e R s m args below meth c Q s0 D TY kr sc nL h0 (pc + 3) lv (.inl ((av_lit q).length : Int) :: r) h) : av_W p l e R s m args below meth c Q s0 D TY kr sc nL h0 pc lv (.inr (.inr (.inr q)) :: r) h := by
  intro H locs ls hR hl hL h1 h2
  have hZ := C.2.2.2.2.2.1.1
  have hW := C.2.2.2.2.1
  have hrm := C.2.2.2.2.2.2.2
  have hrc : ∃ cell : Cell, H[kr q]? = some cell ∧ cell.vm.isStatics = false ∧ s.vm.findClass "java/lang/String" = some cell.cls := by
    obtain ⟨cell, r1, r2, r3, -⟩ := ((hS.1 q hq).1.moved hW.alike).kept (av_old hR)
    exact ⟨cell, r1, r2, r3⟩
  refine av_callN (some (.int (nI (av_lit q).length))) (va_runV (C := "java/lang/String") (As := []) (rest := r.map (av_ev s0.heap.size kr)) (Ts := []) ⟨C.1, C.2.1, C.2.2.1, C.2.2.2.1, fun w hw => by cases hw⟩ (sm_len l hZ hS hq) ⟨av_CB (n := 0) hZ hW rfl rfl (by show _ + 1 ≤ _; simp only [av_rm]; omega) (by show 8 + _ + _ ≤ _; simp only [av_rm]; omega) hco hini hlk (by decide) (by decide +kernel), av_go hZ hW hin0 rfl, av_go hZ hW hse rfl⟩ ⟨av_blind, hrc, fun U hU hWU => ⟨rfl, State.WarmedH.trans hW hWU, fun x hx => by rw [hU]; exact hR.2.1 x hx⟩⟩ rfl rfl hL.1 rfl (lv_room (by rw [av_cats]; exact hr)) hd ⟨by show _ + 0 ≤ _; omega, by show _ + 0 ≤ _; omega⟩) (fun st o t hq => hq) (fun q h => h) ?_
  have kk := k H locs ls hR hl hL h1 h2
  exact kk
theorem av_s_chr {idx q : Nat} {i : Int} {r : List av_V} (C : av_Cx p R s m meth c a0 s0 D TY own nL cc ini h0 hf) (hS : av_Str s0 kr ad) (hd : decode cc pc = .ok (.invokevirtual idx, 3)) (hlk : Cond.methodLink (av_cn own) idx sm_y_chr ∈ lw_tbl) (hin0 : Cond.instanceMethod sm_y_chr ∈ lw_tbl) (hse : Cond.selects "java/lang/String" sm_y_chr sm_y_chr ∈ lw_tbl) (hco : Cond.code sm_y_chr sm_c_chr 2 (some .char) ∈ lw_tbl) (hini : Cond.initialized "java/lang/String" ∈ lw_tbl) (hr : (r.map av_cat).sum ≤ 8) (hq : q < 20) (hi : av_inB i (av_lit q).length = true) (hfr : 4 ≤ R.frames) (hlo : 120 ≤ R.locals) (hle : h.1 ≤ hf.1 ∧ h.2.1 ≤ hf.2.1) (k : av_W p l e R s m args below meth c Q s0 D TY kr sc nL h0 (pc + 3) lv (.inl ((av_lit q).getD (av_w i).toNat 0) :: r) h) : av_W p l e R s m args below meth c Q s0 D TY kr sc nL h0 pc lv (.inl i :: .inr (.inr (.inr q)) :: r) h := by
  intro H locs ls hR hl hL h1 h2
  have hZ := C.2.2.2.2.2.1.1
  have hW := C.2.2.2.2.1
  have hrm := C.2.2.2.2.2.2.2
  have hrc : ∃ cell : Cell, H[kr q]? = some cell ∧ cell.vm.isStatics = false ∧ s.vm.findClass "java/lang/String" = some cell.cls := by
    obtain ⟨cell, r1, r2, r3, -⟩ := ((hS.1 q hq).1.moved hW.alike).kept (av_old hR)
    exact ⟨cell, r1, r2, r3⟩
  have hin : vp_in (Int32.ofInt i) (av_lit q).length := (av_inP hi).1
  refine av_callN (some (.int (Int32.ofInt ((av_lit q).getD (Int32.ofInt i).toNatClampNeg 0)))) (va_runV (C := "java/lang/String") (As := [.int (Int32.ofInt i)]) (rest := r.map (av_ev s0.heap.size kr)) (Ts := []) ⟨C.1, C.2.1, C.2.2.1, C.2.2.2.1, fun w hw => by cases hw⟩ (sm_chr l hZ hS hq hin) ⟨av_CB (n := 1) hZ hW rfl rfl (by show _ + 1 ≤ _; simp only [av_rm]; omega) (by show 8 + _ + _ ≤ _; simp only [av_rm]; omega) hco hini hlk (by decide) (by decide +kernel), av_go hZ hW hin0 rfl, av_go hZ hW hse rfl⟩ ⟨av_blind, hrc, fun U hU hWU => ⟨rfl, State.WarmedH.trans hW hWU, fun x hx => by rw [hU]; exact hR.2.1 x hx⟩⟩ rfl rfl hL.1 rfl (lv_room (by rw [av_cats]; exact hr)) hd ⟨by show _ + 0 ≤ _; omega, by show _ + 0 ≤ _; omega⟩) (fun st o t hq => hq) (fun q h => h) ?_
  have kk := k H locs ls hR hl hL h1 h2
  rw [av_nat]
  exact kk
end AVL
end
section
/-! EVERY STEP -/
/-- the literals: at which place of which pool each stands -/
def av_strs : List (Nat × Nat × Nat × String) := [(2, 66, 0, "offer ask yes no back deed send"), (2, 72, 1, "a b c"), (2, 123, 2, "price much day port court"), (2, 116, 3, "hold"), (2, 121, 4, "given"), (2, 84, 5, "but"), (2, 125, 6, "post wire mouth deed"), (2, 127, 7, "at"), (2, 143, 8, "to"), (2, 137, 9, "after"), (2, 139, 10, "read"), (2, 141, 11, "lost"), (4, 41, 12, "yes offer back no hold lapse silence but form deed risk"), (4, 69, 13, "post wire mouth all"), (4, 50, 14, "sent come read"), (4, 52, 15, "free binds"), (4, 58, 16, "no small"), (4, 60, 17, "first last none"), (4, 62, 18, "none yes"), (4, 64, 19, "bargain sent come")]
def av_len (x : av_E) : Nat := match x.1 with
  | .tableswitch _ _ _ _ => x.2.1
  | .lookupswitch _ _ => x.2.1
  | .bipush _ => 2
  | .sipush _ => 3
  | .ldc _ => 2
  | .ldc_w _ => 3
  | .ldc2_w _ => 3
  | .iload _ => 2
  | .aload _ => 2
  | .lload _ => 2
  | .istore _ => 2
  | .astore _ => 2
  | .iinc _ _ => 3
  | .goto _ => 3
  | .ifCond _ _ => 3
  | .if_icmp _ _ => 3
  | .ifnull _ => 3
  | .ifnonnull _ => 3
  | .getfield _ => 3
  | .putfield _ => 3
  | .getstatic _ => 3
  | .newarray _ => 2
  | .anewarray _ => 3
  | .multianewarray _ _ => 4
  | .new _ => 3
  | .checkcast _ => 3
  | .invokevirtual _ => 3
  | .invokespecial _ => 3
  | .invokestatic _ => 3
  | _ => 1
def av_lkP (own a idx : Nat) : Prop := match a with
  | 1000 => Cond.methodLink (av_cn own) idx Lib.objectInit ∈ lw_tbl
  | 1001 => Cond.methodLink (av_cn own) idx Lib.Math.max.name ∈ lw_tbl
  | 1002 => Cond.methodLink (av_cn own) idx Lib.Math.min.name ∈ lw_tbl
  | 1003 => Cond.methodLink (av_cn own) idx arraycopyName ∈ lw_tbl
  | 1004 => Cond.methodLink (av_cn own) idx ⟨"[I", "clone", "()Ljava/lang/Object;"⟩ ∈ lw_tbl
  | 1005 => Cond.methodLink (av_cn own) idx sm_y_len ∈ lw_tbl
  | 1006 => Cond.methodLink (av_cn own) idx sm_y_chr ∈ lw_tbl
  | _ => False
/-- an entry of a method's code is what the bytes say, and its links are the tables' -/
def av_ok (own : Nat) (cc : ByteArray) (ini : Bool) (fr lo pc : Nat) (x : av_E) : Prop := decode cc pc = .ok (x.1, av_len x) ∧ (match x.1 with
  | .bipush n => (Int8.ofInt n).toInt32 = Int32.ofInt n
  | .sipush n => (Int16.ofInt n).toInt32 = Int32.ofInt n
  | .ldc idx => (x.2.2.1 = 0 ∧ Cond.constant (av_cn own) idx (Int32.ofInt x.2.2.2.2.2) ∈ lw_tbl) ∨ (¬ x.2.2.1 = 0 ∧ ∃ tx, (own, idx, x.2.2.2.1, tx) ∈ av_strs)
  | .ldc_w idx => Cond.constant (av_cn own) idx (Int32.ofInt x.2.2.2.2.2) ∈ lw_tbl
  | .ldc2_w idx => Cond.constantLong (av_cn own) idx (Int64.ofInt x.2.2.2.2.2) ∈ lw_tbl
  | .goto off => (pc : Int) + off = (x.2.2.1 : Int)
  | .ifCond _ off => (pc : Int) + off = (x.2.2.1 : Int)
  | .if_icmp _ off => (pc : Int) + off = (x.2.2.1 : Int)
  | .ifnull off => (pc : Int) + off = (x.2.2.1 : Int)
  | .ifnonnull off => (pc : Int) + off = (x.2.2.1 : Int)
  | .tableswitch d low high offs => 0 ≤ (pc : Int) + d ∧ (∀ q ∈ offs.toList, 0 ≤ (pc : Int) + q) ∧ high - low < offs.toList.length
  | .lookupswitch d ps => (ps.toList.zip (ps.toList.drop 1)).all (fun (a, next) => a.1 < next.1) = true ∧ 0 ≤ (pc : Int) + d ∧ ∀ q ∈ ps.toList, 0 ≤ (pc : Int) + q.2
  | .getfield idx => x.2.2.1 < 9 ∧ x.2.2.2.1 < av_N x.2.2.1 ∧ x.2.2.2.2.1 = av_tg (av_ty x.2.2.1 x.2.2.2.1) ∧ av_FL own idx x.2.2.1 x.2.2.2.1
  | .putfield idx => x.2.2.1 < 9 ∧ x.2.2.2.1 < av_N x.2.2.1 ∧ x.2.2.2.2.1 = av_tg (av_ty x.2.2.1 x.2.2.2.1) ∧ (x.2.2.2.2.1 = 0 → av_ty x.2.2.1 x.2.2.2.1 = .int) ∧ av_FL own idx x.2.2.1 x.2.2.2.1 ∧
    ((av_T x.2.2.1 x.2.2.2.1).2.2.2 = false ∨ (own = x.2.2.1 ∧ (av_T x.2.2.1 x.2.2.2.1).1 = av_cn x.2.2.1 ∧ ini = true ∧ Cond.fieldLink (av_cn own) idx (av_T x.2.2.1 x.2.2.2.1).1 (av_T x.2.2.1 x.2.2.2.1).2.1 (av_T x.2.2.1 x.2.2.2.1).2.2.1 ∈ lw_tbl))
  | .getstatic idx => ∃ host, Cond.fieldLinkNest (av_cn own) idx RX7 "PLAIN_LAW" "[I" host ∈ lw_tbl
  | .newarray t => Cond.arrayClass (newarray.typeOf t) ∈ lw_tbl
  | .anewarray idx => ∃ C0, av_ft x.2.2.1 = .object C0 ∧ Cond.classLink (av_cn own) idx C0 ∈ lw_tbl ∧ Cond.arrayOver (.object C0) ∈ lw_tbl
  | .multianewarray idx d => d = 2 ∧ Cond.classLink (av_cn own) idx "[[I" ∈ lw_tbl
  | .new idx => x.2.2.1 < 9 ∧ Cond.classLink (av_cn own) idx (av_cn x.2.2.1) ∈ lw_tbl
  | .checkcast idx => Cond.classLink (av_cn own) idx "[I" ∈ lw_tbl
  | .invokespecial idx => 1000 ≤ x.2.2.1 → x.2.2.1 = 1000 ∧ av_lkP own 1000 idx ∧ 1 ≤ fr ∧ 40 ≤ lo
  | .invokestatic idx => 1000 ≤ x.2.2.1 → (x.2.2.1 = 1001 ∨ x.2.2.1 = 1002 ∨ x.2.2.1 = 1003) ∧ av_lkP own x.2.2.1 idx ∧ 1 ≤ fr ∧ 40 ≤ lo
  | .invokevirtual idx => 1000 ≤ x.2.2.1 → (x.2.2.1 = 1004 ∨ x.2.2.1 = 1005 ∨ x.2.2.1 = 1006) ∧ av_lkP own x.2.2.1 idx ∧ 4 ≤ fr ∧ 120 ≤ lo
  | _ => True)
/-- what the start holds that no cell of ours is -/
def av_Gl (s0 : State) (kr ad : Nat → Nat) (sc : Nat × (Nat → Int)) : Prop := av_Sc s0 kr sc ∧ av_Pl s0 kr ∧ av_Str s0 kr ad ∧ ∀ q ∈ av_strs, vk_R (av_cn q.1) q.2.1 q.2.2.2 (kr q.2.2.1) s0
set_option maxRecDepth 100000 in
theorem av_f_oi : Cond.instanceMethod Lib.objectInit ∈ lw_tbl := av_mem (i := 24) rfl
set_option maxRecDepth 100000 in
theorem av_f_oc : Cond.code Lib.objectInit ⟨#[0xb1]⟩ 1 none ∈ lw_tbl := av_mem (i := 25) rfl
set_option maxRecDepth 100000 in
theorem av_f_ovA : Cond.arrayOver (.array .int) ∈ lw_tbl := av_mem (i := 68) rfl
set_option maxRecDepth 100000 in
theorem av_f_acI : Cond.arrayClass .int ∈ lw_tbl := av_mem (i := 95) rfl
set_option maxRecDepth 100000 in
theorem av_f_maxs : Cond.static Lib.Math.max.name ∈ lw_tbl := av_mem (i := 156) rfl
set_option maxRecDepth 100000 in
theorem av_f_maxc : Cond.code Lib.Math.max.name Lib.Math.max.code 2 (some .int) ∈ lw_tbl := av_mem (i := 157) rfl
set_option maxRecDepth 100000 in
theorem av_f_mins : Cond.static Lib.Math.min.name ∈ lw_tbl := av_mem (i := 150) rfl
set_option maxRecDepth 100000 in
theorem av_f_minc : Cond.code Lib.Math.min.name Lib.Math.min.code 2 (some .int) ∈ lw_tbl := av_mem (i := 151) rfl
set_option maxRecDepth 100000 in
theorem av_f_mi : Cond.initialized "java/lang/Math" ∈ lw_tbl := av_mem (i := 9) rfl
set_option maxRecDepth 100000 in
theorem av_f_si : Cond.initialized "java/lang/System" ∈ lw_tbl := av_mem (i := 10) rfl
set_option maxRecDepth 100000 in
theorem av_f_acn : Cond.native arraycopyName ∈ lw_tbl := av_mem (i := 154) rfl
set_option maxRecDepth 100000 in
theorem av_f_acs : Cond.static arraycopyName ∈ lw_tbl := av_mem (i := 153) rfl
set_option maxRecDepth 100000 in
theorem av_f_cls : Cond.sameMethod "[I" "java/lang/Object" "clone" "()Ljava/lang/Object;" ∈ lw_tbl := av_mem (i := 143) rfl
set_option maxRecDepth 100000 in
theorem av_f_cln : Cond.native ⟨"java/lang/Object", "clone", "()Ljava/lang/Object;"⟩ ∈ lw_tbl := av_mem (i := 144) rfl
set_option maxRecDepth 100000 in
theorem av_f_cli : Cond.instanceMethod ⟨"java/lang/Object", "clone", "()Ljava/lang/Object;"⟩ ∈ lw_tbl := av_mem (i := 145) rfl
set_option maxRecDepth 100000 in
theorem av_f_cle : Cond.selects "[I" ⟨"[I", "clone", "()Ljava/lang/Object;"⟩ ⟨"java/lang/Object", "clone", "()Ljava/lang/Object;"⟩ ∈ lw_tbl := av_mem (i := 146) rfl
set_option maxRecDepth 100000 in
theorem av_f_clc : Cond.castable "[I" "java/lang/Cloneable" ∈ lw_tbl := av_mem (i := 147) rfl
set_option maxRecDepth 100000 in
theorem av_f_leni : Cond.instanceMethod sm_y_len ∈ lw_tbl := av_mem (i := 375) rfl
set_option maxRecDepth 100000 in
theorem av_f_lene : Cond.selects "java/lang/String" sm_y_len sm_y_len ∈ lw_tbl := av_mem (i := 376) rfl
set_option maxRecDepth 100000 in
theorem av_f_lenc : Cond.code sm_y_len sm_c_len 1 (some .int) ∈ lw_tbl := av_mem (i := 377) rfl
set_option maxRecDepth 100000 in
theorem av_f_chri : Cond.instanceMethod sm_y_chr ∈ lw_tbl := av_mem (i := 385) rfl
set_option maxRecDepth 100000 in
theorem av_f_chre : Cond.selects "java/lang/String" sm_y_chr sm_y_chr ∈ lw_tbl := av_mem (i := 386) rfl
set_option maxRecDepth 100000 in
theorem av_f_chrc : Cond.code sm_y_chr sm_c_chr 2 (some .char) ∈ lw_tbl := av_mem (i := 387) rfl
set_option maxRecDepth 100000 in
theorem av_f_sti : Cond.initialized "java/lang/String" ∈ lw_tbl := av_mem (i := 13) rfl
theorem av_loff {ps : List (Int × Int)} {d v z : Int} (h1 : 0 ≤ z + d) (h2 : ∀ q ∈ ps, 0 ≤ z + q.2) : 0 ≤ z + Op.lookupswitch.offset ps d v := by
  induction ps with
  | nil => exact h1
  | cons q r ih =>
    obtain ⟨a, o⟩ := q
    simp only [Op.lookupswitch.offset]
    split
    · exact h2 (a, o) List.mem_cons_self
    · exact ih (fun q hq => h2 q (List.mem_cons_of_mem _ hq))
section AVE
variable {p : Program} {l : Launch} {e : Env} {R : Room} {s : State} {m : MethodId} {args : Array Value} {below : List Frame} {meth : Method} {c : Code} {Q : State → Prop}
variable {a0 : Array Value} {s0 : State} {D : va_G} {TY : Nat → ClassId} {kr ad : Nat → Nat} {sc : Nat × (Nat → Int)} {own nL fr lo : Nat} {cc : ByteArray} {ini : Bool} {h0 hf h h' : av_H} {pc pc' : Nat} {lv lv' : av_L} {st st' : List av_V}

set_option maxHeartbeats 2000000 in
theorem av_step {x : av_E} (C : av_Cx p R s m meth c a0 s0 D TY own nL cc ini h0 hf) (G : av_Gl s0 kr ad sc) (hfr : R.frames = fr) (hlo : R.locals = lo) (hok : av_ok own cc ini fr lo pc x) (hkd : av_kd x = 0) (hs : av_stp x pc lv st h = some (pc', lv', st', h')) (hle : h'.1 ≤ hf.1 ∧ h'.2.1 ≤ hf.2.1) (k : av_W p l e R s m args below meth c Q s0 D TY kr sc nL h0 pc' lv' st' h') : av_W p l e R s m args below meth c Q s0 D TY kr sc nL h0 pc lv st h := by
  obtain ⟨ins, ln, xa, xb, xc, xk⟩ := x
  cases ins with
  | iconst n =>
    simp only [av_ok, av_len] at hok
    cases hs
    exact av_s_iconst C hok.1 k
  | bipush n =>
    simp only [av_ok, av_len] at hok
    cases hs
    exact av_s_bipush C hok.1 hok.2 k
  | sipush n =>
    simp only [av_ok, av_len] at hok
    cases hs
    exact av_s_sipush C hok.1 hok.2 k
  | lconst n =>
    simp only [av_ok, av_len] at hok
    cases hs
    exact av_s_lconst C hok.1 k
  | aconst_null =>
    simp only [av_ok, av_len] at hok
    cases hs
    exact av_s_null C hok.1 k
  | ldc n =>
    simp only [av_ok, av_len] at hok
    rcases hok.2 with ⟨q1, q2⟩ | ⟨q1, tx, q2⟩
    · simp only [av_stp, if_pos q1] at hs
      cases hs
      exact av_s_ldc C hok.1 q2 k
    · simp only [av_stp, if_neg q1] at hs
      cases hs
      have q3 := G.2.2.2 (own, n, xb, tx) q2
      exact av_s_ldcS C hok.1 q3 k
  | ldc_w n =>
    simp only [av_ok, av_len] at hok
    cases hs
    exact av_s_ldcw C hok.1 hok.2 k
  | ldc2_w n =>
    simp only [av_ok, av_len] at hok
    cases hs
    exact av_s_ldc2 C hok.1 hok.2 k
  | iload_n i =>
    simp only [av_ok, av_len] at hok
    exact av_s_iload_n C hok.1 hs k
  | iload i =>
    simp only [av_ok, av_len] at hok
    exact av_s_iload C hok.1 hs k
  | aload_n i =>
    simp only [av_ok, av_len] at hok
    exact av_s_aload_n C hok.1 hs k
  | aload i =>
    simp only [av_ok, av_len] at hok
    exact av_s_aload C hok.1 hs k
  | lload_n i =>
    simp only [av_ok, av_len] at hok
    exact av_s_lload_n C hok.1 hs k
  | lload i =>
    simp only [av_ok, av_len] at hok
    exact av_s_lload C hok.1 hs k
  | istore_n i =>
    simp only [av_ok, av_len] at hok
    exact av_s_istore_n C hok.1 hs k
  | istore i =>
    simp only [av_ok, av_len] at hok
    exact av_s_istore C hok.1 hs k
  | astore_n i =>
    simp only [av_ok, av_len] at hok
    exact av_s_astore_n C hok.1 hs k
  | astore i =>
    simp only [av_ok, av_len] at hok
    exact av_s_astore C hok.1 hs k
  | iinc i n =>
    simp only [av_ok, av_len] at hok
    exact av_s_iinc C hok.1 hs k
  | iadd =>
    simp only [av_ok, av_len] at hok
    exact av_s_iadd C hok.1 hs k
  | isub =>
    simp only [av_ok, av_len] at hok
    exact av_s_isub C hok.1 hs k
  | imul =>
    simp only [av_ok, av_len] at hok
    exact av_s_imul C hok.1 hs k
  | iand =>
    simp only [av_ok, av_len] at hok
    exact av_s_iand C hok.1 hs k
  | ior =>
    simp only [av_ok, av_len] at hok
    exact av_s_ior C hok.1 hs k
  | ishl =>
    simp only [av_ok, av_len] at hok
    exact av_s_ishl C hok.1 hs k
  | ishr =>
    simp only [av_ok, av_len] at hok
    exact av_s_ishr C hok.1 hs k
  | iushr =>
    simp only [av_ok, av_len] at hok
    exact av_s_iushr C hok.1 hs k
  | idiv =>
    simp only [av_ok, av_len] at hok
    simp only [av_stp] at hs
    split at hs
    · split at hs
      · cases hs
      · next q =>
        cases hs
        exact av_s_idiv C hok.1 q k
    · cases hs
  | irem =>
    simp only [av_ok, av_len] at hok
    simp only [av_stp] at hs
    split at hs
    · split at hs
      · cases hs
      · next q =>
        cases hs
        exact av_s_irem C hok.1 q k
    · cases hs
  | ladd =>
    simp only [av_ok, av_len] at hok
    simp only [av_stp] at hs
    split at hs
    · cases hs
      exact av_s_ladd C hok.1 k
    · cases hs
  | lmul =>
    simp only [av_ok, av_len] at hok
    simp only [av_stp] at hs
    split at hs
    · cases hs
      exact av_s_lmul C hok.1 k
    · cases hs
  | lcmp =>
    simp only [av_ok, av_len] at hok
    simp only [av_stp] at hs
    split at hs
    · cases hs
      exact av_s_lcmp C hok.1 k
    · cases hs
  | i2l =>
    simp only [av_ok, av_len] at hok
    simp only [av_stp] at hs
    split at hs
    · cases hs
      exact av_s_i2l C hok.1 k
    · cases hs
  | l2i =>
    simp only [av_ok, av_len] at hok
    simp only [av_stp] at hs
    split at hs
    · cases hs
      exact av_s_l2i C hok.1 k
    · cases hs
  | i2b =>
    simp only [av_ok, av_len] at hok
    simp only [av_stp] at hs
    split at hs
    · cases hs
      exact av_s_i2b C hok.1 k
    · cases hs
  | dup =>
    simp only [av_ok, av_len] at hok
    simp only [av_stp] at hs
    split at hs
    · split at hs
      · next q =>
        cases hs
        exact av_s_dup C hok.1 q k
      · cases hs
    · cases hs
  | pop =>
    simp only [av_ok, av_len] at hok
    simp only [av_stp] at hs
    split at hs
    · split at hs
      · next q =>
        cases hs
        exact av_s_pop C hok.1 q k
      · cases hs
    · cases hs
  | dup2 =>
    simp only [av_ok, av_len] at hok
    simp only [av_stp] at hs
    split at hs
    · split at hs
      · next q =>
        cases hs
        exact av_s_dup2 C hok.1 q.1 q.2 k
      · cases hs
    · cases hs
  | goto off =>
    simp only [av_ok, av_len] at hok
    cases hs
    exact av_s_goto C hok.1 hok.2 k
  | ifCond c0 off =>
    simp only [av_ok, av_len] at hok
    simp only [av_stp] at hs
    split at hs
    · cases hs
      exact av_s_if C hok.1 hok.2 k
    · cases hs
  | if_icmp c0 off =>
    simp only [av_ok, av_len] at hok
    simp only [av_stp] at hs
    split at hs
    · cases hs
      exact av_s_icmp C hok.1 hok.2 k
    · cases hs
  | ifnull off =>
    simp only [av_ok, av_len] at hok
    simp only [av_stp] at hs
    split at hs
    · cases hs
      exact av_s_ifnull C hok.1 hok.2 k
    · cases hs
  | ifnonnull off =>
    simp only [av_ok, av_len] at hok
    simp only [av_stp] at hs
    split at hs
    · cases hs
      exact av_s_ifnonnull C hok.1 hok.2 k
    · cases hs
  | tableswitch d0 low high offs =>
    simp only [av_ok, av_len] at hok
    simp only [av_stp] at hs
    split at hs
    · cases hs
      exact av_s_table C hok.1 hok.2.1 hok.2.2.1 hok.2.2.2 k
    · cases hs
  | lookupswitch d0 ps =>
    simp only [av_ok, av_len] at hok
    simp only [av_stp] at hs
    split at hs
    · cases hs
      exact av_s_lookup C hok.1 hok.2.1 (av_loff hok.2.2.1 hok.2.2.2) k
    · cases hs
  | getfield idx =>
    simp only [av_ok, av_len] at hok
    exact av_s_getf C hok.1 hok.2.1 hok.2.2.1 hok.2.2.2.1 hok.2.2.2.2 hs k
  | putfield idx =>
    simp only [av_ok, av_len] at hok
    exact av_s_putf C hok.1 hok.2.1 hok.2.2.1 hok.2.2.2.1 hok.2.2.2.2.1 hok.2.2.2.2.2.1 hok.2.2.2.2.2.2 hs k
  | getstatic idx =>
    simp only [av_ok, av_len] at hok
    cases hs
    exact av_s_gets C G.2.1 hok.1 (Or.inr hok.2) k
  | iaload =>
    simp only [av_ok, av_len] at hok
    exact av_s_iald C G.1 hok.1 hs k
  | baload =>
    simp only [av_ok, av_len] at hok
    exact av_s_bald C hok.1 hs k
  | aaload =>
    simp only [av_ok, av_len] at hok
    exact av_s_aald C hok.1 hs k
  | iastore =>
    simp only [av_ok, av_len] at hok
    exact av_s_iast C hok.1 hs k
  | bastore =>
    simp only [av_ok, av_len] at hok
    exact av_s_bast C hok.1 hs k
  | aastore =>
    simp only [av_ok, av_len] at hok
    exact av_s_aast C hok.1 hs k
  | arraylength =>
    simp only [av_ok, av_len] at hok
    exact av_s_alen C G.1 hok.1 hs k
  | newarray t =>
    simp only [av_ok, av_len] at hok
    exact av_s_newa C hok.1 hok.2 hs hle k
  | anewarray idx =>
    simp only [av_ok, av_len] at hok
    obtain ⟨C0, q1, q2, q3⟩ := hok.2
    exact av_s_anew (x := (.anewarray idx, ln, xa, xb, xc, xk)) C hok.1 q1 q2 q3 hs hle k
  | multianewarray idx d0 =>
    simp only [av_ok, av_len] at hok
    obtain ⟨q1, q2⟩ := hok.2
    subst q1
    exact av_s_mnew C hok.1 q2 av_f_ovA av_f_acI hs hle k
  | new idx =>
    simp only [av_ok, av_len] at hok
    cases hs
    exact av_s_new (x := (.new idx, ln, xa, xb, xc, xk)) C hok.1 hok.2.1 hok.2.2 hle k
  | checkcast idx =>
    simp only [av_ok, av_len] at hok
    simp only [av_stp] at hs
    split at hs
    · split at hs
      · next q =>
        cases hs
        exact av_s_cast C hok.1 hok.2 q k
      · cases hs
    · cases hs
  | invokespecial idx =>
    simp only [av_ok, av_len] at hok
    have hk9 : 1000 ≤ xa := by
      simp only [av_kd] at hkd
      split at hkd
      · cases hkd
      · omega
    obtain ⟨q1, q2, q3, q4⟩ := hok.2 hk9
    have q1 : xa = 1000 := q1
    subst q1
    simp only [av_stp] at hs
    unfold av_lib at hs
    split at hs <;> first | (next he => exact absurd he (by decide)) | skip
    · split at hs
      · next q =>
        cases hs
        exact av_s_objInit C hok.1 q2 av_f_oi av_f_oc q (by rw [hfr]; exact q3) (by rw [hlo]; exact q4) k
      · cases hs
    all_goals first | (cases hs; done) | skip
  | invokestatic idx =>
    simp only [av_ok, av_len] at hok
    have hk9 : 1000 ≤ xa := by
      simp only [av_kd] at hkd
      split at hkd
      · cases hkd
      · omega
    obtain ⟨q1, q2, q3, q4⟩ := hok.2 hk9
    have hf1 : 1 ≤ R.frames := by rw [hfr]; exact q3
    have hl1 : 40 ≤ R.locals := by rw [hlo]; exact q4
    simp only [av_stp] at hs
    rcases q1 with q1 | q1 | q1
    · have q1 : xa = 1001 := q1
      subst q1
      unfold av_lib at hs
      split at hs <;> first | (next he => exact absurd he (by decide)) | skip
      · split at hs
        · next q =>
          cases hs
          exact av_s_max C hok.1 q2 av_f_maxs av_f_mi av_f_maxc q hf1 hl1 hle k
        · cases hs
      all_goals first | (cases hs; done) | skip
    · have q1 : xa = 1002 := q1
      subst q1
      unfold av_lib at hs
      split at hs <;> first | (next he => exact absurd he (by decide)) | skip
      · split at hs
        · next q =>
          cases hs
          exact av_s_min C hok.1 q2 av_f_mins av_f_mi av_f_minc q hf1 hl1 hle k
        · cases hs
      all_goals first | (cases hs; done) | skip
    · have q1 : xa = 1003 := q1
      subst q1
      unfold av_lib at hs
      split at hs <;> first | (next he => exact absurd he (by decide)) | skip
      · split at hs
        · next q =>
          cases hs
          exact av_s_copy C hok.1 q2 av_f_acn av_f_acs av_f_si q.1 hf1 hl1 q.2 k
        · cases hs
      · split at hs
        · next q =>
          cases hs
          exact av_s_copyP C G.2.1 hok.1 q2 av_f_acn av_f_acs av_f_si q.1 hf1 hl1 q.2 k
        · cases hs
      all_goals first | (cases hs; done) | skip
  | invokevirtual idx =>
    simp only [av_ok, av_len] at hok
    have hk9 : 1000 ≤ xa := by
      simp only [av_kd] at hkd
      split at hkd
      · cases hkd
      · omega
    obtain ⟨q1, q2, q3, q4⟩ := hok.2 hk9
    have hf1 : 4 ≤ R.frames := by rw [hfr]; exact q3
    have hl1 : 120 ≤ R.locals := by rw [hlo]; exact q4
    simp only [av_stp] at hs
    rcases q1 with q1 | q1 | q1
    · have q1 : xa = 1004 := q1
      subst q1
      unfold av_lib at hs
      split at hs <;> first | (next he => exact absurd he (by decide)) | skip
      · split at hs
        · next q =>
          cases hs
          exact av_s_clone C hok.1 q2 av_f_cls av_f_cln av_f_cli av_f_cle av_f_clc q.2 q.1 (by omega) (by omega) hle k
        · cases hs
      all_goals first | (cases hs; done) | skip
    · have q1 : xa = 1005 := q1
      subst q1
      unfold av_lib at hs
      split at hs <;> first | (next he => exact absurd he (by decide)) | skip
      · split at hs
        · next q =>
          cases hs
          exact av_s_len C G.2.2.1 hok.1 q2 av_f_leni av_f_lene av_f_lenc av_f_sti q.1 q.2 (by omega) (by omega) hle k
        · cases hs
      all_goals first | (cases hs; done) | skip
    · have q1 : xa = 1006 := q1
      subst q1
      unfold av_lib at hs
      split at hs <;> first | (next he => exact absurd he (by decide)) | skip
      · split at hs
        · next q =>
          cases hs
          exact av_s_chr C G.2.2.1 hok.1 q2 av_f_chri av_f_chre av_f_chrc av_f_sti q.1 q.2.1 q.2.2 (by omega) (by omega) hle k
        · cases hs
      all_goals first | (cases hs; done) | skip
  | _ =>
    simp only [av_stp] at hs
    cases hs
end AVE
end
section
/-! EVERY RUN: what the small machine answers, the machine answers -/
theorem av_m_bin {f : Int → Int → Int} {pc pc' : Nat} {lv lv' : av_L} {st st' : List av_V} {h h' : av_H} (hs : av_bin f pc lv st h = some (pc', lv', st', h')) : h' = h := by
  unfold av_bin at hs
  split at hs
  · cases hs; rfl
  · cases hs
theorem av_m_ldi {i n pc pc' : Nat} {lv lv' : av_L} {st st' : List av_V} {h h' : av_H} (hs : av_ldi i n pc lv st h = some (pc', lv', st', h')) : h' = h := by
  unfold av_ldi at hs
  split at hs
  · cases hs; rfl
  · cases hs
theorem av_m_lda {i n pc pc' : Nat} {lv lv' : av_L} {st st' : List av_V} {h h' : av_H} (hs : av_lda i n pc lv st h = some (pc', lv', st', h')) : h' = h := by
  unfold av_lda at hs
  split at hs
  · cases hs; rfl
  · cases hs
theorem av_m_ldl {i n pc pc' : Nat} {lv lv' : av_L} {st st' : List av_V} {h h' : av_H} (hs : av_ldl i n pc lv st h = some (pc', lv', st', h')) : h' = h := by
  unfold av_ldl at hs
  split at hs
  · cases hs; rfl
  · cases hs
theorem av_m_sti {i n pc pc' : Nat} {lv lv' : av_L} {st st' : List av_V} {h h' : av_H} (hs : av_sti i n pc lv st h = some (pc', lv', st', h')) : h' = h := by
  unfold av_sti at hs
  split at hs
  · rw [Option.map_eq_some_iff] at hs
    obtain ⟨_, -, he⟩ := hs
    cases he; rfl
  · cases hs
theorem av_m_sta {i n pc pc' : Nat} {lv lv' : av_L} {st st' : List av_V} {h h' : av_H} (hs : av_sta i n pc lv st h = some (pc', lv', st', h')) : h' = h := by
  unfold av_sta at hs
  split at hs
  · rw [Option.map_eq_some_iff] at hs
    obtain ⟨_, -, he⟩ := hs
    cases he; rfl
  · cases hs
theorem av_m_iinc {i : Nat} {n : Int} {pc pc' : Nat} {lv lv' : av_L} {st st' : List av_V} {h h' : av_H} (hs : av_iinc i n pc lv st h = some (pc', lv', st', h')) : h' = h := by
  unfold av_iinc at hs
  split at hs
  · rw [Option.map_eq_some_iff] at hs
    obtain ⟨_, -, he⟩ := hs
    cases he; rfl
  · cases hs
/-- cells and slots only grow -/
abbrev av_gr (h h' : av_H) : Prop := h.1 ≤ h'.1 ∧ h.2.1 ≤ h'.2.1
theorem av_gr_of {h h' : av_H} (e : h' = h) : av_gr h h' := by
  rw [e]
  exact ⟨Nat.le_refl _, Nat.le_refl _⟩
theorem av_m_putf {x : av_E} {pc pc' : Nat} {lv lv' : av_L} {st st' : List av_V} {h h' : av_H} (hs : av_putf x pc lv st h = some (pc', lv', st', h')) : av_gr h h' := by
  unfold av_putf at hs
  split at hs
  · split at hs
    · cases hs; exact ⟨Nat.le_refl _, Nat.le_refl _⟩
    · cases hs
  · split at hs
    · cases hs; exact ⟨Nat.le_refl _, Nat.le_refl _⟩
    · cases hs
  · split at hs
    · cases hs; exact ⟨Nat.le_refl _, Nat.le_refl _⟩
    · cases hs
  · split at hs
    · cases hs; exact ⟨Nat.le_refl _, Nat.le_refl _⟩
    · cases hs
  · cases hs
theorem av_m_lib {a pc pc' : Nat} {lv lv' : av_L} {st st' : List av_V} {h h' : av_H} (hs : av_lib a pc lv st h = some (pc', lv', st', h')) : av_gr h h' := by
  unfold av_lib at hs
  split at hs
  · split at hs
    · cases hs; exact ⟨Nat.le_refl _, Nat.le_refl _⟩
    · cases hs
  · split at hs
    · cases hs; exact ⟨Nat.le_refl _, Nat.le_refl _⟩
    · cases hs
  · split at hs
    · cases hs; exact ⟨Nat.le_refl _, Nat.le_refl _⟩
    · cases hs
  · split at hs
    · cases hs; exact ⟨Nat.le_refl _, Nat.le_refl _⟩
    · cases hs
  · split at hs
    · cases hs; exact ⟨Nat.le_refl _, Nat.le_refl _⟩
    · cases hs
  · split at hs
    · cases hs; exact ⟨Nat.le_succ _, Nat.le_add_right _ _⟩
    · cases hs
  · split at hs
    · cases hs; exact ⟨Nat.le_refl _, Nat.le_refl _⟩
    · cases hs
  · split at hs
    · cases hs; exact ⟨Nat.le_refl _, Nat.le_refl _⟩
    · cases hs
  · cases hs
theorem av_m_stp {x : av_E} {pc pc' : Nat} {lv lv' : av_L} {st st' : List av_V} {h h' : av_H} (hs : av_stp x pc lv st h = some (pc', lv', st', h')) : av_gr h h' := by
  obtain ⟨ins, ln, xa, xb, xc, xk⟩ := x
  cases ins <;> simp only [av_stp] at hs
  all_goals first
    | (cases hs; done)
    | exact av_gr_of (av_m_bin hs)
    | exact av_gr_of (av_m_ldi hs)
    | exact av_gr_of (av_m_lda hs)
    | exact av_gr_of (av_m_ldl hs)
    | exact av_gr_of (av_m_sti hs)
    | exact av_gr_of (av_m_sta hs)
    | exact av_gr_of (av_m_iinc hs)
    | exact av_m_putf hs
    | exact av_m_lib hs
    | (cases hs; exact ⟨Nat.le_refl _, Nat.le_refl _⟩)
    | (cases hs; exact ⟨Nat.le_succ _, Nat.le_add_right _ _⟩)
    | skip
  all_goals first
    | unfold av_getf at hs
    | unfold av_ald at hs
    | unfold av_aald at hs
    | unfold av_iast at hs
    | unfold av_bast at hs
    | unfold av_aast at hs
    | unfold av_alen at hs
    | unfold av_newa at hs
    | unfold av_anew at hs
    | unfold av_mnew at hs
    | skip
  all_goals (repeat' split at hs)
  all_goals first
    | (cases hs; done)
    | (cases hs; exact ⟨Nat.le_refl _, Nat.le_refl _⟩)
    | (cases hs; exact ⟨Nat.le_succ _, Nat.le_add_right _ _⟩)
    | (cases hs; exact ⟨by show h.1 ≤ h.1 + 1 + _; omega, by show h.2.1 ≤ h.2.1 + _ + _; omega⟩)
theorem av_mono (P : av_P) : ∀ (n : Nat) (cd : List (Nat × av_E)) (pc : Nat) (lv : av_L) (st : List av_V) (h : av_H) (v : Option av_V) (h' : av_H), av_run P n cd pc lv st h = some (v, h') → av_gr h h' := by
  intro n
  induction n with
  | zero => intro cd pc lv st h v h' hs; simp [av_run] at hs
  | succ n ih =>
    intro cd pc lv st h v h' hs
    unfold av_run at hs
    split at hs
    · cases hs
    · next x hx =>
      split at hs
      · split at hs
        · cases hs
        · next pc1 lv1 st1 h1 hs1 =>
          have e1 := av_m_stp hs1
          have e2 := ih _ _ _ _ _ _ _ hs
          exact ⟨Nat.le_trans e1.1 e2.1, Nat.le_trans e1.2 e2.2⟩
      · unfold av_ret at hs
        split at hs
        · cases hs; exact ⟨Nat.le_refl _, Nat.le_refl _⟩
        · split at hs
          · cases hs; exact ⟨Nat.le_refl _, Nat.le_refl _⟩
          · cases hs
        · cases hs; exact ⟨Nat.le_refl _, Nat.le_refl _⟩
        · cases hs
      · split at hs
        · split at hs
          · split at hs
            · cases hs
            · next v1 h1 hs1 =>
              have e1 := ih _ _ _ _ _ _ _ hs1
              have e2 := ih _ _ _ _ _ _ _ hs
              exact ⟨Nat.le_trans e1.1 e2.1, Nat.le_trans e1.2 e2.2⟩
          · cases hs
        · cases hs
/-- a method: its class's row, name, bytes, locals, what it returns, its kind (0 an object's, 1 a constructor, 2 static), how many arguments, frames and words that it needs, its code -/
abbrev av_Mr : Type := Nat × MethodName × ByteArray × Nat × Option FieldType × Nat × Nat × Nat × Nat × List (Nat × av_E)
def av_rtk (rt : Option FieldType) (ins : Instr) (v : Option av_V) : Prop :=
  (ins = .return_ ∧ v = none ∧ rt = none) ∨ (ins = .ireturn ∧ ∃ x, v = some (.inl x) ∧ (rt = some .int ∨ (rt = some .boolean ∧ (x = 0 ∨ x = 1)))) ∨ (ins = .areturn ∧ ∃ q, v = some (.inr (.inr (.inl q))) ∧ ∃ t, rt = some t ∧ ((∃ n, t = .object n) ∨ ∃ u, t = .array u))
/-- a return's entry says what the method returns -/
def av_rok (rt : Option FieldType) (x : av_E) : Prop := match x.1 with
  | .return_ => rt = none
  | .ireturn => (x.2.2.1 = 0 ∧ rt = some .int) ∨ (x.2.2.1 = 1 ∧ rt = some .boolean)
  | .areturn => ∃ t, rt = some t ∧ ((∃ n, t = .object n) ∨ ∃ u, t = .array u)
  | _ => True
/-- a call's entry names a method of the table, of its kind, by the tables' word or by the nest's, and there is room for it -/
def av_cok (T : Nat → Option av_Mr) (own fr lo : Nat) (x : av_E) : Prop := ∃ r : av_Mr, T x.2.2.1 = some r ∧ r.2.2.2.2.2.1 = x.2.2.2.2.1 ∧ r.2.2.2.2.2.2.1 = x.2.2.2.1 ∧ (r.1 : Int) = x.2.2.2.2.2 ∧ r.2.2.2.2.2.2.2.1 + 1 ≤ fr ∧ 8 + (r.2.2.2.1 + 11) + r.2.2.2.2.2.2.2.2.1 ≤ lo ∧
  (match x.1 with
  | .invokevirtual idx => x.2.2.2.2.1 = 0 ∧ Cond.methodLink (av_cn own) idx r.2.1 ∈ lw_tbl
  | .invokespecial idx => x.2.2.2.2.1 = 1 ∧ (Cond.methodLink (av_cn own) idx r.2.1 ∈ lw_tbl ∨ ∃ host, Cond.methodLinkNest (av_cn own) idx r.2.1 host ∈ lw_tbl)
  | .invokestatic idx => x.2.2.2.2.1 = 2 ∧ Cond.methodLink (av_cn own) idx r.2.1 ∈ lw_tbl
  | _ => True)
/-- a method's code is what its bytes say -/
def av_dok (T : Nat → Option av_Mr) (r : av_Mr) : Prop := ∀ q ∈ r.2.2.2.2.2.2.2.2.2, av_ok r.1 r.2.2.1 (decide (r.2.2.2.2.2.1 = 1)) r.2.2.2.2.2.2.2.1 r.2.2.2.2.2.2.2.2.1 q.1 q.2 ∧ av_rok r.2.2.2.2.1 q.2 ∧ (av_kd q.2 = 2 → av_cok T r.1 r.2.2.2.2.2.2.2.1 r.2.2.2.2.2.2.2.2.1 q.2)
/-- a method that may be called: what the tables say of it -/
def av_hok (r : av_Mr) : Prop := plainName r.2.1.cls = true ∧ av_cn r.1 = r.2.1.cls ∧ Cond.code r.2.1 r.2.2.1 r.2.2.2.1 r.2.2.2.2.1 ∈ lw_tbl ∧ Cond.initialized r.2.1.cls ∈ lw_tbl ∧ (r.2.1.cls ≠ "java/lang/invoke/MethodHandle" ∧ r.2.1.cls ≠ "java/lang/invoke/VarHandle") ∧ (parseMethodDescriptor r.2.1.desc).map (fun d => d.parameters.length) = some r.2.2.2.2.2.2.1 ∧
  ((r.2.2.2.2.2.1 = 0 ∧ r.1 < 9 ∧ Cond.instanceMethod r.2.1 ∈ lw_tbl ∧ Cond.selects r.2.1.cls r.2.1 r.2.1 ∈ lw_tbl) ∨ (r.2.2.2.2.2.1 = 1 ∧ r.2.1.name = "<init>" ∧ Cond.instanceMethod r.2.1 ∈ lw_tbl ∧ r.2.2.2.2.1 = none) ∨ (r.2.2.2.2.2.1 = 2 ∧ Cond.static r.2.1 ∈ lw_tbl))
def av_Good (T : Nat → Option av_Mr) : Prop := ∀ mi r, T mi = some r → av_dok T r ∧ av_hok r
def av_Pt (T : Nat → Option av_Mr) : av_P := fun mi => (T mi).map (fun r => (r.2.2.2.1, r.2.2.2.2.2.2.2.2.2))
end
section
/-! THE RUN: by the fuel -/
def av_Qm (s0 : State) (D : va_G) (TY : Nat → ClassId) (kr : Nat → Nat) (sc : Nat × (Nat → Int)) (v : Option av_V) (h' : av_H) : Array Value → State → Outcome → State → Prop := fun _ _ o t => o = .returned (v.map (av_ev s0.heap.size kr)) ∧ av_R s0 D TY sc h' t.heap
def av_Pm (s0 : State) (D : va_G) (TY : Nat → ClassId) (kr : Nat → Nat) (sc : Nat × (Nat → Int)) (vs : List av_V) (h : av_H) : Array Value → State → Prop := fun a U => a = (vs.map (av_ev s0.heap.size kr)).toArray ∧ s0.WarmedH U.vm ∧ av_R s0 D TY sc h U.heap
def av_Rm (r : av_Mr) (h h' : av_H) : Room := { frames := r.2.2.2.2.2.2.2.1, cells := h'.1 - h.1, slots := h'.2.1 - h.2.1, locals := r.2.2.2.2.2.2.2.2.1 }
/-- a method's contract, at these values and this heap -/
def av_Mt (l : Launch) (s0 : State) (D : va_G) (TY : Nat → ClassId) (kr : Nat → Nat) (sc : Nat × (Nat → Int)) (r : av_Mr) (vs : List av_V) (h : av_H) (v : Option av_V) (h' : av_H) : Prop :=
  Met l r.2.1 [Cond.code r.2.1 r.2.2.1 r.2.2.2.1 r.2.2.2.2.1] (av_Rm r h h') (av_Pm s0 D TY kr sc vs h) (av_Qm s0 D TY kr sc v h') (h'.1 - h.1) (h'.2.1 - h.2.1) (fun q => s0.heap.size ≤ q)
theorem av_lookup {cd : List (Nat × av_E)} {pc : Nat} {x : av_E} (h : cd.lookup pc = some x) : (pc, x) ∈ cd := by
  induction cd with
  | nil => cases h
  | cons q t ih =>
    obtain ⟨k, y⟩ := q
    simp only [List.lookup] at h
    split at h
    · next e =>
      cases h
      have e1 : pc = k := by simpa using e
      rw [e1]
      exact List.mem_cons_self
    · exact List.mem_cons_of_mem _ (ih h)
theorem av_ents {z : Nat} {kr : Nat → Nat} : ∀ (vs : List av_V), (lg_sl (vs.map (av_ev z kr))).length = (av_args vs).length ∧ ∀ (i : Nat) (v : av_V), (av_args vs)[i]? = some (some v) → ∀ n : Nat, (n + i, av_ev z kr v) ∈ lv_args n (vs.map (av_ev z kr)) := by
  intro vs
  induction vs with
  | nil => exact ⟨rfl, fun i v h => by simp [av_args] at h⟩
  | cons u us ih =>
    by_cases hc : av_cat u = 2
    · have hc' : (av_ev z kr u).category = 2 := by rw [av_ev_cat]; exact hc
      refine ⟨by simp only [List.map_cons, lg_sl, List.flatMap_cons, hc', if_true, av_args, hc] at *; simp [ih.1], fun i v h n => ?_⟩
      simp only [av_args, hc, if_true] at h
      simp only [List.map_cons, lv_args, hc', if_true]
      rcases i with _ | _ | i
      · cases h
        exact List.mem_cons_self
      · cases h
      · have := ih.2 i v (by simpa using h) (n + 2)
        rw [show n + 2 + i = n + (i + 1 + 1) by omega] at this
        exact List.mem_cons_of_mem _ this
    · have hc' : ¬ (av_ev z kr u).category = 2 := by rw [av_ev_cat]; exact hc
      refine ⟨by simp only [List.map_cons, lg_sl, List.flatMap_cons, hc', if_false, av_args, hc] at *; simp [ih.1], fun i v h n => ?_⟩
      simp only [av_args, hc, if_false] at h
      simp only [List.map_cons, lv_args, hc', if_false]
      rcases i with _ | i
      · cases h
        exact List.mem_cons_self
      · have := ih.2 i v (by simpa using h) (n + 1)
        rw [show n + 1 + i = n + (i + 1) by omega] at this
        exact List.mem_cons_of_mem _ this
theorem av_entry {z : Nat} {kr : Nat → Nat} {n : Nat} {vs : List av_V} (h : (av_args vs).length ≤ n) : av_Lr z kr ((lg_sl (vs.map (av_ev z kr)) ++ List.replicate (n - (lg_sl (vs.map (av_ev z kr))).length) Slot.unset).toArray) n (av_ent n vs) := by
  obtain ⟨e1, e2⟩ := av_ents (z := z) (kr := kr) vs
  have hh := lv_entry (vs.map (av_ev z kr)) (n := n) (by rw [e1]; exact h)
  refine ⟨hh.1, by simp [av_ent]; omega, hh.2.1, fun i v hv => ?_⟩
  unfold av_ent at hv
  have hi : i < (av_args vs).length := by
    by_cases q : i < (av_args vs).length
    · exact q
    · rw [List.getElem?_append_right (by omega)] at hv
      have := List.eq_of_mem_replicate (List.mem_of_getElem? hv)
      cases this
  rw [List.getElem?_append_left hi] at hv
  have := e2 i v hv 0
  rw [Nat.zero_add] at this
  exact hh.2.2 _ this
section AVR
variable {l : Launch} {a0 : Array Value} {s0 : State} {D : va_G} {TY : Nat → ClassId} {kr ad : Nat → Nat} {sc : Nat × (Nat → Int)} {T : Nat → Option av_Mr}
/-- what a body gives, with this fuel -/
def av_Bd (l : Launch) (a0 : Array Value) (s0 : State) (D : va_G) (TY : Nat → ClassId) (kr : Nat → Nat) (sc : Nat × (Nat → Int)) (T : Nat → Option av_Mr) (n : Nat) : Prop :=
  ∀ (p : Program) (e : Env) (R : Room) (s : State) (m : MethodId) (args : Array Value) (below : List Frame) (meth : Method) (c : Code) (Q : State → Prop) (r : av_Mr) (h0 hf h : av_H) (pc : Nat) (lv : av_L) (st : List av_V) (v : Option av_V),
    av_dok T r → av_Cx p R s m meth c a0 s0 D TY r.1 r.2.2.2.1 r.2.2.1 (decide (r.2.2.2.2.2.1 = 1)) h0 hf → R.frames = r.2.2.2.2.2.2.2.1 → R.locals = r.2.2.2.2.2.2.2.2.1 →
    (∀ (pc' : Nat) (lv' : av_L) (ins : Instr), decode r.2.2.1 pc' = .ok (ins, 1) → av_rtk r.2.2.2.2.1 ins v → av_W p l e R s m args below meth c Q s0 D TY kr sc r.2.2.2.1 h0 pc' lv' v.toList hf) →
    av_run (av_Pt T) n r.2.2.2.2.2.2.2.2.2 pc lv st h = some (v, hf) → av_W p l e R s m args below meth c Q s0 D TY kr sc r.2.2.2.1 h0 pc lv st h
theorem av_met {n : Nat} (hZ : av_Z a0 s0 D TY) (hB : av_Bd l a0 s0 D TY kr sc T n) {r : av_Mr} (hd : av_dok T r) (hh : av_hok r) {vs : List av_V} {h h' : av_H} {v : Option av_V} (ha : (av_args vs).length ≤ r.2.2.2.1) (hr : av_run (av_Pt T) n r.2.2.2.2.2.2.2.2.2 0 (av_ent r.2.2.2.1 vs) [] h = some (v, h')) : av_Mt l s0 D TY kr sc r vs h v h' := by
  have hmono := av_mono _ _ _ _ _ _ _ _ _ hr
  refine Met.ofW (cc := r.2.2.1) (maxL := r.2.2.2.1) (ret := r.2.2.2.2.1) hh.1 rfl ?_
  intro p e s m args below meth c s₁ B hml hv
  obtain ⟨rfl, hW, hR⟩ := hv
  have hown : s.vm.findClass (av_cn r.1) = some m.cls := by
    rw [hh.2.1]
    exact findClass_of_methodNamed B.named
  have hin : decide (r.2.2.2.2.2.1 = 1) = true → meth.name = "<init>" := by
    intro q
    have q := of_decide_eq_true q
    rcases hh.2.2.2.2.2.2 with g | g | g
    · omega
    · rw [(name_of_methodNamed B.named B.method).1]
      exact g.2.1
    · omega
  have hlocks := B.notSynchronized
  have C : av_Cx p (headSpec [Cond.code r.2.1 r.2.2.1 r.2.2.2.1 r.2.2.2.2.1] (av_Rm r h h')).room s m meth c a0 s0 D TY r.1 r.2.2.2.1 r.2.2.1 (decide (r.2.2.2.2.2.1 = 1)) h h' :=
    ⟨B.exec, B.bytes, hml, hown, hW, hZ, hin, Nat.le_refl _, Nat.le_refl _⟩
  have hret : ∀ (pc' : Nat) (lv' : av_L) (ins : Instr), decode r.2.2.1 pc' = .ok (ins, 1) → av_rtk r.2.2.2.2.1 ins v → av_W p l e (headSpec [Cond.code r.2.1 r.2.2.1 r.2.2.2.1 r.2.2.2.2.1] (av_Rm r h h')).room s m (vs.map (av_ev s0.heap.size kr)).toArray below meth c (MQ below (av_Qm s0 D TY kr sc v h') (vs.map (av_ev s0.heap.size kr)).toArray s (h'.1 - h.1) (h'.2.1 - h.2.1) (fun q => s0.heap.size ≤ q)) s0 D TY kr sc r.2.2.2.1 h pc' lv' v.toList h' := by
    intro pc' lv' ins hdg hk H locs ls hR' hl hL _ _
    have hq : ∀ t : State, t.heap = H → s.WarmedH t.vm → av_Qm s0 D TY kr sc v h' (vs.map (av_ev s0.heap.size kr)).toArray s (.returned (v.map (av_ev s0.heap.size kr))) t := fun t ht _ => ⟨rfl, by rw [ht]; exact hR'⟩
    rcases hk with ⟨rfl, rfl, hrt⟩ | ⟨rfl, x, rfl, hrt⟩ | ⟨rfl, q, rfl, t, hrt, hty⟩
    · exact W.vret B.exec B.bytes (B.returns.trans hrt) hq hl hdg
    · rcases hrt with hrt | ⟨hrt, hx⟩
      · exact W.iret B.exec B.bytes (B.returns.trans hrt) hq hl hdg
      · exact W.zret B.exec B.bytes (B.returns.trans hrt) (av_bool hx).1 hq hl hdg
    · exact W.aret B.exec B.bytes (B.returns.trans hrt) hty (va_rf_or _) hq hl hdg
  have hw := hB p e (headSpec [Cond.code r.2.1 r.2.2.1 r.2.2.2.1 r.2.2.2.2.1] (av_Rm r h h')).room s m (vs.map (av_ev s0.heap.size kr)).toArray below meth c (MQ below (av_Qm s0 D TY kr sc v h') (vs.map (av_ev s0.heap.size kr)).toArray s (h'.1 - h.1) (h'.2.1 - h.2.1) (fun q => s0.heap.size ≤ q)) r h h' h 0 (av_ent r.2.2.2.1 vs) [] v hd C rfl rfl hret hr
  have hw := hw s.heap [] _ hR (fun q hq => by cases hq) (av_entry ha) (Nat.le_refl _) (Nat.le_refl _)
  rw [lg_entry_eq]
  rw [Nat.sub_self, Nat.sub_self] at hw
  exact hw
theorem av_blindM {vs : List av_V} {h : av_H} : FrameBlind (av_Pm s0 D TY kr sc vs h) := fun _ _ _ _ q => q
/-- behind a call, by what the callee's contract says -/
theorem av_back {p : Program} {e : Env} {R : Room} {s : State} {m : MethodId} {args : Array Value} {below : List Frame} {meth : Method} {c : Code} {Q : State → Prop} {nL : Nat} {h0 h h1 : av_H} {pc : Nat} {lv : av_L} {rst : List av_V} {v : Option av_V} {H : Heap} {locs : List Loc} {ls : Array Slot} {st0 : List Value} {vs : Array Value}
    (hr : va_Run p l e R s m args below meth c H locs (h.1 - h0.1) (h.2.1 - h0.2.1) (h1.1 - h.1) (h1.2.1 - h.2.1) (F0 m pc ls st0) (rst.map (av_ev s0.heap.size kr)) (av_Qm s0 D TY kr sc v h1 vs) (fun q => s0.heap.size ≤ q))
    (hg : av_gr h h1) (hl : ∀ q ∈ locs, s0.heap.size ≤ q.base) (hL : av_Lr s0.heap.size kr ls nL lv) (g1 : h0.1 ≤ h.1) (g2 : h0.2.1 ≤ h.2.1) (k : av_W p l e R s m args below meth c Q s0 D TY kr sc nL h0 (pc + 3) lv (v.toList ++ rst) h1) :
    W p l e R s m args below meth c H locs (h.1 - h0.1) (h.2.1 - h0.2.1) Q (F0 m pc ls st0) := by
  intro T hT X
  obtain ⟨v', st₀, t, T', L, e0, X', hL', e1, e2, ⟨hv, hRt⟩, step⟩ := hr T hT X
  have hv : v' = v.map (av_ev s0.heap.size kr) := by
    have := hv
    simpa using this
  subst hv
  have hg1 := hg.1
  have hg2 := hg.2
  have kk := k T'.heap (locs ++ L) ls (by rw [e1]; exact hRt) (fun q hq => by
    rcases List.mem_append.mp hq with hq | hq
    · exact hl q hq
    · exact hL' q hq) hL (by omega) (by omega)
  rw [show h1.1 - h0.1 = h.1 - h0.1 + (h1.1 - h.1) by omega, show h1.2.1 - h0.2.1 = h.2.1 - h0.2.1 + (h1.2.1 - h.2.1) by omega] at kk
  obtain ⟨t2, b1, b2⟩ := kk T' rfl X'
  refine ⟨t2, step t2 ?_, b2⟩
  have e3 : (v.map (av_ev s0.heap.size kr)).toList ++ rst.map (av_ev s0.heap.size kr) = (v.toList ++ rst).map (av_ev s0.heap.size kr) := by
    cases v <;> simp
  rw [e3]
  exact b1
end AVR
end
section
/-! WHAT THE SMALL MACHINE ANSWERS, THE MACHINE ANSWERS -/
theorem av_take {b : Nat} {st : List av_V} {z : Nat} {kr : Nat → Nat} (hb : b ≤ st.length) : (((st.take b).reverse).map (av_ev z kr)).length = b := by
  simp
  omega
theorem av_popS {x : av_E} {st vs rst : List av_V} {h : av_H} (hp : av_pop x st h = some (vs, rst)) (hc : x.2.2.2.2.1 = 2) : x.2.2.2.1 ≤ st.length ∧ st.drop x.2.2.2.1 = rst ∧ (rst.map av_cat).sum ≤ 8 ∧ vs = (st.take x.2.2.2.1).reverse := by
  unfold av_pop at hp
  rw [hc] at hp
  split at hp
  · next hb =>
    simp only at hp
    split at hp
    · next hq =>
      cases hp
      exact ⟨hb, rfl, hq, rfl⟩
    · cases hp
  · cases hp
theorem av_popV {x : av_E} {st vs rst : List av_V} {h : av_H} (hp : av_pop x st h = some (vs, rst)) (hc : x.2.2.2.2.1 = 0 ∨ x.2.2.2.2.1 = 1) : x.2.2.2.1 ≤ st.length ∧ ∃ o, st.drop x.2.2.2.1 = .inr (.inr (.inl (some o))) :: rst ∧ (rst.map av_cat).sum ≤ 8 ∧ o < h.1 ∧ ((h.2.2.1 o).1 : Int) = x.2.2.2.2.2 ∧ vs = .inr (.inr (.inl (some o))) :: (st.take x.2.2.2.1).reverse := by
  unfold av_pop at hp
  split at hp
  · next hb =>
    refine ⟨hb, ?_⟩
    cases hdr : st.drop x.2.2.2.1 with
    | nil =>
      rw [hdr] at hp
      rcases hc with hc | hc <;> (rw [hc] at hp; simp at hp)
    | cons u us =>
      rw [hdr] at hp
      have go : ∀ o, u = .inr (.inr (.inl (some o))) → (if (us.map av_cat).sum ≤ 8 ∧ o < h.1 ∧ ((h.2.2.1 o).1 : Int) = x.2.2.2.2.2 then some (.inr (.inr (.inl (some o))) :: (st.take x.2.2.2.1).reverse, us) else none) = some (vs, rst) → ∃ o, u :: us = .inr (.inr (.inl (some o))) :: rst ∧ (rst.map av_cat).sum ≤ 8 ∧ o < h.1 ∧ ((h.2.2.1 o).1 : Int) = x.2.2.2.2.2 ∧ vs = .inr (.inr (.inl (some o))) :: (st.take x.2.2.2.1).reverse := by
        intro o hu hp
        split at hp
        · next hq =>
          cases hp
          exact ⟨o, by rw [hu], hq.1, hq.2.1, hq.2.2, rfl⟩
        · cases hp
      rcases u with y | y | (_ | o) | y <;> (rcases hc with hc | hc <;> (rw [hc] at hp; simp only at hp)) <;> first | (cases hp; done) | exact go o rfl hp
  · cases hp
theorem av_all {l : Launch} {a0 : Array Value} {s0 : State} {D : va_G} {TY : Nat → ClassId} {kr ad : Nat → Nat} {sc : Nat × (Nat → Int)} {T : Nat → Option av_Mr} (hG : av_Good T) (hZ : av_Z a0 s0 D TY) (G : av_Gl s0 kr ad sc) : ∀ n, av_Bd l a0 s0 D TY kr sc T n := by
  intro n
  induction n with
  | zero => intro p e R s m args below meth c Q r h0 hf h pc lv st v hd C hfr hlo kret hs; simp [av_run] at hs
  | succ n ih =>
    intro p e R s m args below meth c Q r h0 hf h pc lv st v hd C hfr hlo kret hs
    unfold av_run at hs
    split at hs
    · cases hs
    · next x hx =>
      obtain ⟨hok, hrk, hck⟩ := hd _ (av_lookup hx)
      split at hs
      · next hkd =>
        split at hs
        · cases hs
        · next pc1 lv1 st1 h1 hs1 =>
          exact av_step C G hfr hlo hok hkd hs1 (av_mono _ _ _ _ _ _ _ _ _ hs) (ih p e R s m args below meth c Q r h0 hf h1 pc1 lv1 st1 v hd C hfr hlo kret hs)
      · obtain ⟨ins, ln, xa, xb, xc, xk⟩ := x
        unfold av_ret at hs
        split at hs
        · next he =>
          cases hs
          have he : ins = .return_ := he
          subst he
          exact kret pc lv _ hok.1 (Or.inl ⟨rfl, rfl, hrk⟩)
        · next y he =>
          have he : ins = .ireturn := he
          subst he
          split at hs
          · next hc =>
            cases hs
            refine kret pc lv _ hok.1 (Or.inr (Or.inl ⟨rfl, y, rfl, ?_⟩))
            have hrk : (xa = 0 ∧ r.2.2.2.2.1 = some .int) ∨ (xa = 1 ∧ r.2.2.2.2.1 = some .boolean) := hrk
            rcases hrk with ⟨q1, q2⟩ | ⟨q1, q2⟩
            · exact Or.inl q2
            · refine Or.inr ⟨q2, ?_⟩
              rcases hc with hc | hc
              · have hc : xa = 0 := hc
                omega
              · exact hc
          · cases hs
        · next y he =>
          cases hs
          have he : ins = .areturn := he
          subst he
          exact kret pc lv _ hok.1 (Or.inr (Or.inr ⟨rfl, y, rfl, hrk⟩))
        · cases hs
      · next hk0 hk1 =>
        have hkd : av_kd x = 2 := by
          have : av_kd x = 0 ∨ av_kd x = 1 ∨ av_kd x = 2 := by
            obtain ⟨ins, ln, xa, xb, xc, xk⟩ := x
            cases ins <;> simp only [av_kd] <;> first | (split <;> simp) | simp
          rcases this with q | q | q
          · exact absurd q hk0
          · exact absurd q hk1
          · exact q
        dsimp only at hok hrk hck
        obtain ⟨r', hT, hkind, hna, hown', hf1, hl1, hlink⟩ := hck hkd
        have hPt : av_Pt T x.2.2.1 = some (r'.2.2.2.1, r'.2.2.2.2.2.2.2.2.2) := by
          unfold av_Pt
          rw [hT]
          rfl
        rw [hPt] at hs
        split at hs
        · next M vs rst hM hpop =>
          cases hM
          split at hs
          · next hlen =>
            split at hs
            · cases hs
            · next u h1 hcall =>
              obtain ⟨hd', hh'⟩ := hG _ _ hT
              have hMt := av_met hZ ih hd' hh' hlen hcall
              have m1 := av_mono _ _ _ _ _ _ _ _ _ hcall
              have m2 := av_mono _ _ _ _ _ _ _ _ _ hs
              have k := ih p e R s m args below meth c Q r h0 hf h1 (pc + 3) lv (u.toList ++ rst) v hd C hfr hlo kret hs
              have hZ1 := hZ.1
              have hW := C.2.2.2.2.1
              intro H locs ls hR hl hL g1 g2
              refine av_back (st0 := st.map (av_ev s0.heap.size kr)) (v := u) (vs := (vs.map (av_ev s0.heap.size kr)).toArray) ?_ m1 hl hL g1 g2 k
              have hroom : (h.1 - h0.1) + (h1.1 - h.1) ≤ R.cells ∧ (h.2.1 - h0.2.1) + (h1.2.1 - h.2.1) ≤ R.slots := by
                have := C.2.2.2.2.2.2.2
                have := m1.1
                have := m1.2
                have := m2.1
                have := m2.2
                omega
              have hPre : ∀ U : State, U.heap = H → s.WarmedH U.vm → av_Pm s0 D TY kr sc vs h (vs.map (av_ev s0.heap.size kr)).toArray U := fun U hU hWU => ⟨rfl, State.WarmedH.trans hW hWU, by rw [hU]; exact hR⟩
              obtain ⟨hp1, hp2, hp3, hp4, hp5, hp6, hp7⟩ := hh'
              have hi3 : (∃ idx, x.1 = .invokevirtual idx) ∨ (∃ idx, x.1 = .invokespecial idx) ∨ ∃ idx, x.1 = .invokestatic idx := by
                obtain ⟨ins, ln, xa, xb, xc, xk⟩ := x
                cases ins <;> simp only [av_kd] at hkd <;> first | (cases hkd; done) | simp
              have hdec : decode r.2.2.1 pc = .ok (x.1, 3) := by
                have := hok.1
                unfold av_len at this
                rcases hi3 with ⟨i, he⟩ | ⟨i, he⟩ | ⟨i, he⟩ <;> (rw [he] at this ⊢; exact this)
              have hst : st = st.take x.2.2.2.1 ++ st.drop x.2.2.2.1 := (List.take_append_drop _ _).symm
              have hfrm : r'.2.2.2.2.2.2.2.1 + 1 ≤ R.frames := by rw [hfr]; exact hf1
              have hlom : 8 + (r'.2.2.2.1 + 11) + r'.2.2.2.2.2.2.2.2.1 ≤ R.locals := by rw [hlo]; exact hl1
              rcases hi3 with ⟨idx, he⟩ | ⟨idx, he⟩ | ⟨idx, he⟩
              · rw [he] at hlink hdec
                obtain ⟨hc0, hlk⟩ := hlink
                obtain ⟨hbl, o, hdrop, q1, q2, q3, rfl⟩ := av_popV hpop (Or.inl hc0)
                have hlen9 := av_take (z := s0.heap.size) (kr := kr) hbl
                rcases hp7 with ⟨-, g9, gi, gs⟩ | ⟨g, -⟩ | ⟨g, -⟩
                · have q4 : (h.2.2.1 o).1 = r'.1 := by omega
                  have hrc : ∃ cellB : Cell, H[s0.heap.size + o]? = some cellB ∧ cellB.vm.isStatics = false ∧ s.vm.findClass r'.2.1.cls = some cellB.cls := by
                    have hat := hR.2.2.2 o q2
                    unfold av_at at hat
                    rw [if_pos (by rw [q4]; exact g9), q4] at hat
                    obtain ⟨cell, b1, b2, b3, -⟩ := hat
                    refine ⟨cell, b1, by rw [b3]; rfl, ?_⟩
                    rw [← hp2, b2]
                    exact (av_kn C g9).2.1
                  refine va_runV (C := r'.2.1.cls) (As := ((st.take x.2.2.2.1).reverse).map (av_ev s0.heap.size kr)) (b := s0.heap.size + o) (Ts := []) ⟨C.1, C.2.1, C.2.2.1, C.2.2.2.1, fun w hw => by cases hw⟩ hMt ⟨av_CB hZ1 hW rfl rfl hfrm hlom hp3 hp4 hlk hp5 hp6, av_go hZ1 hW gi rfl, av_go hZ1 hW gs rfl⟩ ⟨av_blindM, hrc, hPre⟩ rfl (hlen9.trans hna.symm) hL.1 ?_ (lv_room (by rw [av_cats]; exact q1)) hdec hroom
                  show st.map (av_ev s0.heap.size kr) = _
                  conv => lhs; rw [hst, hdrop]
                  simp [av_ev, va_rf]
                · omega
                · omega
              · rw [he] at hlink hdec
                obtain ⟨hc0, hlk⟩ := hlink
                obtain ⟨hbl, o, hdrop, q1, q2, q3, rfl⟩ := av_popV hpop (Or.inr hc0)
                have hlen9 := av_take (z := s0.heap.size) (kr := kr) hbl
                rcases hp7 with ⟨g, -⟩ | ⟨-, gn, gi, grt⟩ | ⟨g, -⟩
                · omega
                · unfold av_Mt at hMt
                  rw [grt] at hMt hp3
                  have hstk : st.map (av_ev s0.heap.size kr) = (((st.take x.2.2.2.1).reverse).map (av_ev s0.heap.size kr)).reverse ++ .ref (s0.heap.size + o) :: rst.map (av_ev s0.heap.size kr) := by
                    conv => lhs; rw [hst, hdrop]
                    simp [av_ev, va_rf]
                  rcases hlk with hlk | ⟨host, hlk⟩
                  · exact va_runI (As := ((st.take x.2.2.2.1).reverse).map (av_ev s0.heap.size kr)) (b := s0.heap.size + o) (Ts := []) ⟨C.1, C.2.1, C.2.2.1, C.2.2.2.1, fun w hw => by cases hw⟩ hMt ⟨av_CB hZ1 hW rfl rfl hfrm hlom hp3 hp4 hlk hp5 hp6, gn, av_go hZ1 hW gi rfl⟩ ⟨av_blindM, hPre⟩ rfl (hlen9.trans hna.symm) hL.1 hstk (lv_room (by rw [av_cats]; exact q1)) hdec hroom
                  · exact va_runIN (As := ((st.take x.2.2.2.1).reverse).map (av_ev s0.heap.size kr)) (b := s0.heap.size + o) (Ts := []) ⟨C.1, C.2.1, C.2.2.1, C.2.2.2.1, fun w hw => by cases hw⟩ hMt ⟨av_CN hZ1 hW rfl rfl hfrm hlom hp3 hp4 hlk hp5 hp6, gn, av_go hZ1 hW gi rfl⟩ ⟨av_blindM, hPre⟩ rfl (hlen9.trans hna.symm) hL.1 hstk (lv_room (by rw [av_cats]; exact q1)) hdec hroom
                · omega
              · rw [he] at hlink hdec
                obtain ⟨hc0, hlk⟩ := hlink
                obtain ⟨hbl, hdrop, q1, rfl⟩ := av_popS hpop hc0
                have hlen9 := av_take (z := s0.heap.size) (kr := kr) hbl
                rcases hp7 with ⟨g, -⟩ | ⟨g, -⟩ | ⟨-, gs⟩
                · omega
                · omega
                · refine va_runS (As := ((st.take x.2.2.2.1).reverse).map (av_ev s0.heap.size kr)) (Ts := []) ⟨C.1, C.2.1, C.2.2.1, C.2.2.2.1, fun w hw => by cases hw⟩ hMt ⟨av_CB hZ1 hW rfl rfl hfrm hlom hp3 hp4 hlk hp5 hp6, av_go hZ1 hW gs rfl⟩ ⟨av_blindM, hPre⟩ rfl (hlen9.trans hna.symm) hL.1 ?_ (lv_room (by rw [av_cats]; exact q1)) hdec hroom
                  show st.map (av_ev s0.heap.size kr) = _
                  conv => lhs; rw [hst, hdrop]
                  simp
          · cases hs
        · cases hs
end
