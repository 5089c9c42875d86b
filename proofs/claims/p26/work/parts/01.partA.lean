-- ===== PART A: goes FIRST, ahead of the names: the tables' words, and 'selects' of the private methods out of them =====
theorem lw_m1 {w : Cond} {i : Nat} (h : tables_1_1[i]? = some w) : w ∈ tables_1 := List.mem_append_left _ (List.mem_of_getElem? h)
theorem lw_m2 {w : Cond} {i : Nat} (h : tables_1_2[i]? = some w) : w ∈ tables_1 := List.mem_append_right _ (List.mem_append_left _ (List.mem_of_getElem? h))
theorem lw_m3 {w : Cond} {i : Nat} (h : tables_1_3[i]? = some w) : w ∈ tables_1 := List.mem_append_right _ (List.mem_append_right _ (List.mem_append_left _ (List.mem_of_getElem? h)))
theorem lw_m4 {w : Cond} {i : Nat} (h : tables_1_4[i]? = some w) : w ∈ tables_1 := List.mem_append_right _ (List.mem_append_right _ (List.mem_append_right _ (List.mem_append_left _ (List.mem_of_getElem? h))))
theorem lw_m5 {w : Cond} {i : Nat} (h : tables_1_5[i]? = some w) : w ∈ tables_1 := List.mem_append_right _ (List.mem_append_right _ (List.mem_append_right _ (List.mem_append_right _ (List.mem_append_left _ (List.mem_of_getElem? h)))))
theorem lw_m6 {w : Cond} {i : Nat} (h : tables_1_6[i]? = some w) : w ∈ tables_1 := List.mem_append_right _ (List.mem_append_right _ (List.mem_append_right _ (List.mem_append_right _ (List.mem_append_right _ (List.mem_append_left _ (List.mem_of_getElem? h))))))
theorem lw_m7 {w : Cond} {i : Nat} (h : tables_1_7[i]? = some w) : w ∈ tables_1 := List.mem_append_right _ (List.mem_append_right _ (List.mem_append_right _ (List.mem_append_right _ (List.mem_append_right _ (List.mem_append_right _ (List.mem_of_getElem? h))))))
/-- a private method of a class that the tables say can be made, by its rows of tables_1 -/
def lw_okq (q : MethodName × Nat) : Prop := (q.1.cls ≠ "java/lang/invoke/MethodHandle" ∧ q.1.cls ≠ "java/lang/invoke/VarHandle") ∧ Cond.instantiable q.1.cls q.2 ∈ tables_1 ∧ Cond.privateMethod q.1 ∈ tables_1 ∧ Cond.instanceMethod q.1 ∈ tables_1
set_option maxRecDepth 100000 in
theorem lw_p0 : lw_okq (⟨"CrossingWords$CaseReader", "readSaying", "(I)V"⟩, 3) := ⟨⟨by decide +kernel, by decide +kernel⟩, lw_m1 (i := 98) rfl, lw_m2 (i := 116) rfl, lw_m2 (i := 117) rfl⟩
set_option maxRecDepth 100000 in
theorem lw_p1 : lw_okq (⟨"CrossingWords$CaseReader", "readOther", "(I)V"⟩, 3) := ⟨⟨by decide +kernel, by decide +kernel⟩, lw_m1 (i := 98) rfl, lw_m2 (i := 185) rfl, lw_m2 (i := 186) rfl⟩
set_option maxRecDepth 100000 in
theorem lw_p2 : lw_okq (⟨"CrossingWords$CaseReader", "readSaid", "(II)V"⟩, 3) := ⟨⟨by decide +kernel, by decide +kernel⟩, lw_m1 (i := 98) rfl, lw_m2 (i := 190) rfl, lw_m2 (i := 191) rfl⟩
set_option maxRecDepth 100000 in
theorem lw_p3 : lw_okq (⟨"CrossingWords$CaseReader", "fits", "(III)Z"⟩, 3) := ⟨⟨by decide +kernel, by decide +kernel⟩, lw_m1 (i := 98) rfl, lw_m2 (i := 198) rfl, lw_m2 (i := 199) rfl⟩
set_option maxRecDepth 100000 in
theorem lw_p4 : lw_okq (⟨"CrossingWords$CaseReader", "readTerms", "(I)V"⟩, 3) := ⟨⟨by decide +kernel, by decide +kernel⟩, lw_m1 (i := 98) rfl, lw_m2 (i := 203) rfl, lw_m2 (i := 204) rfl⟩
set_option maxRecDepth 100000 in
theorem lw_p5 : lw_okq (⟨"CrossingWords$CaseReader", "readWords", "(I)V"⟩, 3) := ⟨⟨by decide +kernel, by decide +kernel⟩, lw_m1 (i := 98) rfl, lw_m2 (i := 207) rfl, lw_m2 (i := 208) rfl⟩
set_option maxRecDepth 100000 in
theorem lw_p6 : lw_okq (⟨"CrossingWords$CaseReader", "readBut", "(I)V"⟩, 3) := ⟨⟨by decide +kernel, by decide +kernel⟩, lw_m1 (i := 98) rfl, lw_m2 (i := 224) rfl, lw_m2 (i := 225) rfl⟩
set_option maxRecDepth 100000 in
theorem lw_p7 : lw_okq (⟨"CrossingWords$CaseReader", "readTimes", "(I)V"⟩, 3) := ⟨⟨by decide +kernel, by decide +kernel⟩, lw_m1 (i := 98) rfl, lw_m2 (i := 228) rfl, lw_m2 (i := 229) rfl⟩
set_option maxRecDepth 100000 in
theorem lw_p8 : lw_okq (⟨"CrossingWords$CaseReader", "readSpan", "(III)V"⟩, 3) := ⟨⟨by decide +kernel, by decide +kernel⟩, lw_m1 (i := 98) rfl, lw_m2 (i := 238) rfl, lw_m2 (i := 239) rfl⟩
set_option maxRecDepth 100000 in
theorem lw_p9 : lw_okq (⟨"CrossingWords", "endReading", "()V"⟩, 9) := ⟨⟨by decide +kernel, by decide +kernel⟩, lw_m1 (i := 19) rfl, lw_m3 (i := 12) rfl, lw_m3 (i := 13) rfl⟩
set_option maxRecDepth 100000 in
theorem lw_p10 : lw_okq (⟨"CrossingWords$LawReader", "readRule", "()V"⟩, 2) := ⟨⟨by decide +kernel, by decide +kernel⟩, lw_m1 (i := 114) rfl, lw_m3 (i := 46) rfl, lw_m3 (i := 47) rfl⟩
set_option maxRecDepth 100000 in
theorem lw_p11 : lw_okq (⟨"CrossingWords$LawReader", "readYes", "()V"⟩, 2) := ⟨⟨by decide +kernel, by decide +kernel⟩, lw_m1 (i := 114) rfl, lw_m3 (i := 52) rfl, lw_m3 (i := 53) rfl⟩
set_option maxRecDepth 100000 in
theorem lw_p12 : lw_okq (⟨"CrossingWords$Bench", "setHours", "(II)V"⟩, 16) := ⟨⟨by decide +kernel, by decide +kernel⟩, lw_m1 (i := 184) rfl, lw_m3 (i := 131) rfl, lw_m3 (i := 132) rfl⟩
set_option maxRecDepth 100000 in
theorem lw_p13 : lw_okq (⟨"CrossingWords$Court", "learnGivens", "(LCrossingWords$Case;I[II)V"⟩, 11) := ⟨⟨by decide +kernel, by decide +kernel⟩, lw_m1 (i := 128) rfl, lw_m3 (i := 161) rfl, lw_m3 (i := 162) rfl⟩
set_option maxRecDepth 100000 in
theorem lw_p14 : lw_okq (⟨"CrossingWords$Court", "markNeeded", "(LCrossingWords$Case;I)Z"⟩, 11) := ⟨⟨by decide +kernel, by decide +kernel⟩, lw_m1 (i := 128) rfl, lw_m3 (i := 165) rfl, lw_m3 (i := 166) rfl⟩
set_option maxRecDepth 100000 in
theorem lw_p15 : lw_okq (⟨"CrossingWords$Court", "markGivens", "(LCrossingWords$Case;)Z"⟩, 11) := ⟨⟨by decide +kernel, by decide +kernel⟩, lw_m1 (i := 128) rfl, lw_m3 (i := 169) rfl, lw_m3 (i := 170) rfl⟩
def lw_privs_1 : List (MethodName × Nat) := [(⟨"CrossingWords$CaseReader", "readSaying", "(I)V"⟩, 3), (⟨"CrossingWords$CaseReader", "readOther", "(I)V"⟩, 3), (⟨"CrossingWords$CaseReader", "readSaid", "(II)V"⟩, 3), (⟨"CrossingWords$CaseReader", "fits", "(III)Z"⟩, 3), (⟨"CrossingWords$CaseReader", "readTerms", "(I)V"⟩, 3), (⟨"CrossingWords$CaseReader", "readWords", "(I)V"⟩, 3), (⟨"CrossingWords$CaseReader", "readBut", "(I)V"⟩, 3), (⟨"CrossingWords$CaseReader", "readTimes", "(I)V"⟩, 3), (⟨"CrossingWords$CaseReader", "readSpan", "(III)V"⟩, 3), (⟨"CrossingWords", "endReading", "()V"⟩, 9), (⟨"CrossingWords$LawReader", "readRule", "()V"⟩, 2), (⟨"CrossingWords$LawReader", "readYes", "()V"⟩, 2), (⟨"CrossingWords$Bench", "setHours", "(II)V"⟩, 16), (⟨"CrossingWords$Court", "learnGivens", "(LCrossingWords$Case;I[II)V"⟩, 11), (⟨"CrossingWords$Court", "markNeeded", "(LCrossingWords$Case;I)Z"⟩, 11), (⟨"CrossingWords$Court", "markGivens", "(LCrossingWords$Case;)Z"⟩, 11)]
theorem lw_r1 : ∀ q ∈ lw_privs_1, lw_okq q := List.forall_mem_cons.mpr ⟨lw_p0, List.forall_mem_cons.mpr ⟨lw_p1, List.forall_mem_cons.mpr ⟨lw_p2, List.forall_mem_cons.mpr ⟨lw_p3, List.forall_mem_cons.mpr ⟨lw_p4, List.forall_mem_cons.mpr ⟨lw_p5, List.forall_mem_cons.mpr ⟨lw_p6, List.forall_mem_cons.mpr ⟨lw_p7, List.forall_mem_cons.mpr ⟨lw_p8, List.forall_mem_cons.mpr ⟨lw_p9, List.forall_mem_cons.mpr ⟨lw_p10, List.forall_mem_cons.mpr ⟨lw_p11, List.forall_mem_cons.mpr ⟨lw_p12, List.forall_mem_cons.mpr ⟨lw_p13, List.forall_mem_cons.mpr ⟨lw_p14, List.forall_mem_cons.mpr ⟨lw_p15, fun _ h => absurd h List.not_mem_nil⟩⟩⟩⟩⟩⟩⟩⟩⟩⟩⟩⟩⟩⟩⟩⟩
set_option maxRecDepth 100000 in
theorem lw_p16 : lw_okq (⟨"CrossingWords$Bench", "openOffers", "()V"⟩, 16) := ⟨⟨by decide +kernel, by decide +kernel⟩, lw_m1 (i := 184) rfl, lw_m3 (i := 182) rfl, lw_m3 (i := 183) rfl⟩
set_option maxRecDepth 100000 in
theorem lw_p17 : lw_okq (⟨"CrossingWords$Bench", "endAt", "(IIII)V"⟩, 16) := ⟨⟨by decide +kernel, by decide +kernel⟩, lw_m1 (i := 184) rfl, lw_m3 (i := 187) rfl, lw_m3 (i := 188) rfl⟩
set_option maxRecDepth 100000 in
theorem lw_p18 : lw_okq (⟨"CrossingWords$Bench", "takeBack", "()V"⟩, 16) := ⟨⟨by decide +kernel, by decide +kernel⟩, lw_m1 (i := 184) rfl, lw_m3 (i := 191) rfl, lw_m3 (i := 192) rfl⟩
set_option maxRecDepth 100000 in
theorem lw_p19 : lw_okq (⟨"CrossingWords$Bench", "freeFrom", "(I)I"⟩, 16) := ⟨⟨by decide +kernel, by decide +kernel⟩, lw_m1 (i := 184) rfl, lw_m3 (i := 196) rfl, lw_m3 (i := 197) rfl⟩
set_option maxRecDepth 100000 in
theorem lw_p20 : lw_okq (⟨"CrossingWords$Bench", "hearAnswers", "()V"⟩, 16) := ⟨⟨by decide +kernel, by decide +kernel⟩, lw_m1 (i := 184) rfl, lw_m3 (i := 200) rfl, lw_m3 (i := 201) rfl⟩
set_option maxRecDepth 100000 in
theorem lw_p21 : lw_okq (⟨"CrossingWords$Bench", "tryYeses", "()V"⟩, 16) := ⟨⟨by decide +kernel, by decide +kernel⟩, lw_m1 (i := 184) rfl, lw_m3 (i := 204) rfl, lw_m3 (i := 205) rfl⟩
set_option maxRecDepth 100000 in
theorem lw_p22 : lw_okq (⟨"CrossingWords$Bench", "yesWhen", "(I)I"⟩, 16) := ⟨⟨by decide +kernel, by decide +kernel⟩, lw_m1 (i := 184) rfl, lw_m3 (i := 208) rfl, lw_m3 (i := 209) rfl⟩
set_option maxRecDepth 100000 in
theorem lw_p23 : lw_okq (⟨"CrossingWords$Bench", "isOpenAt", "(II)Z"⟩, 16) := ⟨⟨by decide +kernel, by decide +kernel⟩, lw_m1 (i := 184) rfl, lw_m3 (i := 212) rfl, lw_m3 (i := 213) rfl⟩
set_option maxRecDepth 100000 in
theorem lw_p24 : lw_okq (⟨"CrossingWords$Bench", "trySilence", "()V"⟩, 16) := ⟨⟨by decide +kernel, by decide +kernel⟩, lw_m1 (i := 184) rfl, lw_m3 (i := 216) rfl, lw_m3 (i := 217) rfl⟩
set_option maxRecDepth 100000 in
theorem lw_p25 : lw_okq (⟨"CrossingWords$Court", "tallyBargain", "(I)V"⟩, 11) := ⟨⟨by decide +kernel, by decide +kernel⟩, lw_m1 (i := 128) rfl, lw_m4 (i := 22) rfl, lw_m4 (i := 23) rfl⟩
set_option maxRecDepth 100000 in
theorem lw_p26 : lw_okq (⟨"CrossingWords$Court", "turnsAnswer", "(II)Z"⟩, 11) := ⟨⟨by decide +kernel, by decide +kernel⟩, lw_m1 (i := 128) rfl, lw_m4 (i := 36) rfl, lw_m4 (i := 37) rfl⟩
set_option maxRecDepth 100000 in
theorem lw_p27 : lw_okq (⟨"CrossingWords$Bench", "riskPasses", "()I"⟩, 16) := ⟨⟨by decide +kernel, by decide +kernel⟩, lw_m1 (i := 184) rfl, lw_m4 (i := 49) rfl, lw_m4 (i := 50) rfl⟩
set_option maxRecDepth 100000 in
theorem lw_p28 : lw_okq (⟨"CrossingWords$Court", "partsIn", "(I)Z"⟩, 11) := ⟨⟨by decide +kernel, by decide +kernel⟩, lw_m1 (i := 128) rfl, lw_m4 (i := 69) rfl, lw_m4 (i := 70) rfl⟩
set_option maxRecDepth 100000 in
theorem lw_p29 : lw_okq (⟨"CrossingWords$Bench", "forestalls", "(II)Z"⟩, 16) := ⟨⟨by decide +kernel, by decide +kernel⟩, lw_m1 (i := 184) rfl, lw_m4 (i := 110) rfl, lw_m4 (i := 111) rfl⟩
set_option maxRecDepth 100000 in
theorem lw_p30 : lw_okq (⟨"CrossingWords$Bench", "mayFrom", "(III)I"⟩, 16) := ⟨⟨by decide +kernel, by decide +kernel⟩, lw_m1 (i := 184) rfl, lw_m4 (i := 125) rfl, lw_m4 (i := 126) rfl⟩
set_option maxRecDepth 100000 in
theorem lw_p31 : lw_okq (⟨"CrossingWords$Bench", "mayTo", "(I)I"⟩, 16) := ⟨⟨by decide +kernel, by decide +kernel⟩, lw_m1 (i := 184) rfl, lw_m4 (i := 130) rfl, lw_m4 (i := 131) rfl⟩
def lw_privs_2 : List (MethodName × Nat) := [(⟨"CrossingWords$Bench", "openOffers", "()V"⟩, 16), (⟨"CrossingWords$Bench", "endAt", "(IIII)V"⟩, 16), (⟨"CrossingWords$Bench", "takeBack", "()V"⟩, 16), (⟨"CrossingWords$Bench", "freeFrom", "(I)I"⟩, 16), (⟨"CrossingWords$Bench", "hearAnswers", "()V"⟩, 16), (⟨"CrossingWords$Bench", "tryYeses", "()V"⟩, 16), (⟨"CrossingWords$Bench", "yesWhen", "(I)I"⟩, 16), (⟨"CrossingWords$Bench", "isOpenAt", "(II)Z"⟩, 16), (⟨"CrossingWords$Bench", "trySilence", "()V"⟩, 16), (⟨"CrossingWords$Court", "tallyBargain", "(I)V"⟩, 11), (⟨"CrossingWords$Court", "turnsAnswer", "(II)Z"⟩, 11), (⟨"CrossingWords$Bench", "riskPasses", "()I"⟩, 16), (⟨"CrossingWords$Court", "partsIn", "(I)Z"⟩, 11), (⟨"CrossingWords$Bench", "forestalls", "(II)Z"⟩, 16), (⟨"CrossingWords$Bench", "mayFrom", "(III)I"⟩, 16), (⟨"CrossingWords$Bench", "mayTo", "(I)I"⟩, 16)]
theorem lw_r2 : ∀ q ∈ lw_privs_2, lw_okq q := List.forall_mem_cons.mpr ⟨lw_p16, List.forall_mem_cons.mpr ⟨lw_p17, List.forall_mem_cons.mpr ⟨lw_p18, List.forall_mem_cons.mpr ⟨lw_p19, List.forall_mem_cons.mpr ⟨lw_p20, List.forall_mem_cons.mpr ⟨lw_p21, List.forall_mem_cons.mpr ⟨lw_p22, List.forall_mem_cons.mpr ⟨lw_p23, List.forall_mem_cons.mpr ⟨lw_p24, List.forall_mem_cons.mpr ⟨lw_p25, List.forall_mem_cons.mpr ⟨lw_p26, List.forall_mem_cons.mpr ⟨lw_p27, List.forall_mem_cons.mpr ⟨lw_p28, List.forall_mem_cons.mpr ⟨lw_p29, List.forall_mem_cons.mpr ⟨lw_p30, List.forall_mem_cons.mpr ⟨lw_p31, fun _ h => absurd h List.not_mem_nil⟩⟩⟩⟩⟩⟩⟩⟩⟩⟩⟩⟩⟩⟩⟩⟩
set_option maxRecDepth 100000 in
theorem lw_p32 : lw_okq (⟨"CrossingWords", "countChanged", "(LCrossingWords$Case;II)I"⟩, 9) := ⟨⟨by decide +kernel, by decide +kernel⟩, lw_m1 (i := 19) rfl, lw_m4 (i := 154) rfl, lw_m4 (i := 155) rfl⟩
set_option maxRecDepth 100000 in
theorem lw_p33 : lw_okq (⟨"CrossingWordsModel", "begins", "(I)V"⟩, 63) := ⟨⟨by decide +kernel, by decide +kernel⟩, lw_m4 (i := 189) rfl, lw_m5 (i := 153) rfl, lw_m5 (i := 154) rfl⟩
set_option maxRecDepth 100000 in
theorem lw_p34 : lw_okq (⟨"CrossingWordsModel", "next", "()V"⟩, 63) := ⟨⟨by decide +kernel, by decide +kernel⟩, lw_m4 (i := 189) rfl, lw_m5 (i := 157) rfl, lw_m5 (i := 158) rfl⟩
set_option maxRecDepth 100000 in
theorem lw_p35 : lw_okq (⟨"CrossingWordsModel", "here", "()I"⟩, 63) := ⟨⟨by decide +kernel, by decide +kernel⟩, lw_m4 (i := 189) rfl, lw_m5 (i := 161) rfl, lw_m5 (i := 162) rfl⟩
set_option maxRecDepth 100000 in
theorem lw_p36 : lw_okq (⟨"CrossingWordsModel", "readSayings", "(II)I"⟩, 63) := ⟨⟨by decide +kernel, by decide +kernel⟩, lw_m4 (i := 189) rfl, lw_m5 (i := 171) rfl, lw_m5 (i := 172) rfl⟩
set_option maxRecDepth 100000 in
theorem lw_p37 : lw_okq (⟨"CrossingWordsModel", "errs", "()V"⟩, 63) := ⟨⟨by decide +kernel, by decide +kernel⟩, lw_m4 (i := 189) rfl, lw_m5 (i := 175) rfl, lw_m5 (i := 176) rfl⟩
set_option maxRecDepth 100000 in
theorem lw_p38 : lw_okq (⟨"CrossingWordsModel", "readSaying", "(II)V"⟩, 63) := ⟨⟨by decide +kernel, by decide +kernel⟩, lw_m4 (i := 189) rfl, lw_m5 (i := 179) rfl, lw_m5 (i := 180) rfl⟩
set_option maxRecDepth 100000 in
theorem lw_p39 : lw_okq (⟨"CrossingWordsModel", "whatHere", "()I"⟩, 63) := ⟨⟨by decide +kernel, by decide +kernel⟩, lw_m4 (i := 189) rfl, lw_m5 (i := 183) rfl, lw_m5 (i := 184) rfl⟩
set_option maxRecDepth 100000 in
theorem lw_p40 : lw_okq (⟨"CrossingWordsModel", "handHere", "(I)I"⟩, 63) := ⟨⟨by decide +kernel, by decide +kernel⟩, lw_m4 (i := 189) rfl, lw_m5 (i := 194) rfl, lw_m5 (i := 195) rfl⟩
set_option maxRecDepth 100000 in
theorem lw_p41 : lw_okq (⟨"CrossingWordsModel", "saidHere", "(IIII)I"⟩, 63) := ⟨⟨by decide +kernel, by decide +kernel⟩, lw_m4 (i := 189) rfl, lw_m5 (i := 199) rfl, lw_m5 (i := 200) rfl⟩
set_option maxRecDepth 100000 in
theorem lw_p42 : lw_okq (⟨"CrossingWordsModel", "isOffer", "(I)Z"⟩, 63) := ⟨⟨by decide +kernel, by decide +kernel⟩, lw_m4 (i := 189) rfl, lw_m5 (i := 203) rfl, lw_m5 (i := 204) rfl⟩
set_option maxRecDepth 100000 in
theorem lw_p43 : lw_okq (⟨"CrossingWordsModel", "words", "(IZ)V"⟩, 63) := ⟨⟨by decide +kernel, by decide +kernel⟩, lw_m4 (i := 189) rfl, lw_m5 (i := 207) rfl, lw_m5 (i := 208) rfl⟩
set_option maxRecDepth 100000 in
theorem lw_p44 : lw_okq (⟨"CrossingWordsModel", "wordHere", "()I"⟩, 63) := ⟨⟨by decide +kernel, by decide +kernel⟩, lw_m4 (i := 189) rfl, lw_m5 (i := 211) rfl, lw_m5 (i := 212) rfl⟩
set_option maxRecDepth 100000 in
theorem lw_p45 : lw_okq (⟨"CrossingWordsModel", "numeral", "(II)I"⟩, 63) := ⟨⟨by decide +kernel, by decide +kernel⟩, lw_m4 (i := 189) rfl, lw_m5 (i := 220) rfl, lw_m5 (i := 221) rfl⟩
set_option maxRecDepth 100000 in
theorem lw_p46 : lw_okq (⟨"CrossingWordsModel", "is", "(J)Z"⟩, 63) := ⟨⟨by decide +kernel, by decide +kernel⟩, lw_m4 (i := 189) rfl, lw_m5 (i := 225) rfl, lw_m5 (i := 226) rfl⟩
set_option maxRecDepth 100000 in
theorem lw_p47 : lw_okq (⟨"CrossingWordsModel", "times", "(I)V"⟩, 63) := ⟨⟨by decide +kernel, by decide +kernel⟩, lw_m4 (i := 189) rfl, lw_m5 (i := 231) rfl, lw_m5 (i := 232) rfl⟩
def lw_privs_3 : List (MethodName × Nat) := [(⟨"CrossingWords", "countChanged", "(LCrossingWords$Case;II)I"⟩, 9), (⟨"CrossingWordsModel", "begins", "(I)V"⟩, 63), (⟨"CrossingWordsModel", "next", "()V"⟩, 63), (⟨"CrossingWordsModel", "here", "()I"⟩, 63), (⟨"CrossingWordsModel", "readSayings", "(II)I"⟩, 63), (⟨"CrossingWordsModel", "errs", "()V"⟩, 63), (⟨"CrossingWordsModel", "readSaying", "(II)V"⟩, 63), (⟨"CrossingWordsModel", "whatHere", "()I"⟩, 63), (⟨"CrossingWordsModel", "handHere", "(I)I"⟩, 63), (⟨"CrossingWordsModel", "saidHere", "(IIII)I"⟩, 63), (⟨"CrossingWordsModel", "isOffer", "(I)Z"⟩, 63), (⟨"CrossingWordsModel", "words", "(IZ)V"⟩, 63), (⟨"CrossingWordsModel", "wordHere", "()I"⟩, 63), (⟨"CrossingWordsModel", "numeral", "(II)I"⟩, 63), (⟨"CrossingWordsModel", "is", "(J)Z"⟩, 63), (⟨"CrossingWordsModel", "times", "(I)V"⟩, 63)]
theorem lw_r3 : ∀ q ∈ lw_privs_3, lw_okq q := List.forall_mem_cons.mpr ⟨lw_p32, List.forall_mem_cons.mpr ⟨lw_p33, List.forall_mem_cons.mpr ⟨lw_p34, List.forall_mem_cons.mpr ⟨lw_p35, List.forall_mem_cons.mpr ⟨lw_p36, List.forall_mem_cons.mpr ⟨lw_p37, List.forall_mem_cons.mpr ⟨lw_p38, List.forall_mem_cons.mpr ⟨lw_p39, List.forall_mem_cons.mpr ⟨lw_p40, List.forall_mem_cons.mpr ⟨lw_p41, List.forall_mem_cons.mpr ⟨lw_p42, List.forall_mem_cons.mpr ⟨lw_p43, List.forall_mem_cons.mpr ⟨lw_p44, List.forall_mem_cons.mpr ⟨lw_p45, List.forall_mem_cons.mpr ⟨lw_p46, List.forall_mem_cons.mpr ⟨lw_p47, fun _ h => absurd h List.not_mem_nil⟩⟩⟩⟩⟩⟩⟩⟩⟩⟩⟩⟩⟩⟩⟩⟩
set_option maxRecDepth 100000 in
theorem lw_p48 : lw_okq (⟨"CrossingWordsModel", "wayHere", "()I"⟩, 63) := ⟨⟨by decide +kernel, by decide +kernel⟩, lw_m4 (i := 189) rfl, lw_m5 (i := 235) rfl, lw_m5 (i := 236) rfl⟩
set_option maxRecDepth 100000 in
theorem lw_p49 : lw_okq (⟨"CrossingWordsModel", "mustBe", "(J)V"⟩, 63) := ⟨⟨by decide +kernel, by decide +kernel⟩, lw_m4 (i := 189) rfl, lw_m6 (i := 3) rfl, lw_m6 (i := 4) rfl⟩
set_option maxRecDepth 100000 in
theorem lw_p50 : lw_okq (⟨"CrossingWordsModel", "span", "(III)V"⟩, 63) := ⟨⟨by decide +kernel, by decide +kernel⟩, lw_m4 (i := 189) rfl, lw_m6 (i := 7) rfl, lw_m6 (i := 8) rfl⟩
set_option maxRecDepth 100000 in
theorem lw_p51 : lw_okq (⟨"CrossingWordsModel", "ends", "()V"⟩, 63) := ⟨⟨by decide +kernel, by decide +kernel⟩, lw_m4 (i := 189) rfl, lw_m6 (i := 15) rfl, lw_m6 (i := 16) rfl⟩
set_option maxRecDepth 100000 in
theorem lw_p52 : lw_okq (⟨"CrossingWordsModel", "isCase", "(I)Z"⟩, 63) := ⟨⟨by decide +kernel, by decide +kernel⟩, lw_m4 (i := 189) rfl, lw_m6 (i := 23) rfl, lw_m6 (i := 24) rfl⟩
set_option maxRecDepth 100000 in
theorem lw_p53 : lw_okq (⟨"CrossingWordsModel", "readRules", "(I)Z"⟩, 63) := ⟨⟨by decide +kernel, by decide +kernel⟩, lw_m4 (i := 189) rfl, lw_m6 (i := 31) rfl, lw_m6 (i := 32) rfl⟩
set_option maxRecDepth 100000 in
theorem lw_p54 : lw_okq (⟨"CrossingWordsModel", "readRule", "(I)V"⟩, 63) := ⟨⟨by decide +kernel, by decide +kernel⟩, lw_m4 (i := 189) rfl, lw_m6 (i := 35) rfl, lw_m6 (i := 36) rfl⟩
set_option maxRecDepth 100000 in
theorem lw_p55 : lw_okq (⟨"CrossingWordsModel", "one", "(JJJ)I"⟩, 63) := ⟨⟨by decide +kernel, by decide +kernel⟩, lw_m4 (i := 189) rfl, lw_m6 (i := 40) rfl, lw_m6 (i := 41) rfl⟩
set_option maxRecDepth 100000 in
theorem lw_p56 : lw_okq (⟨"CrossingWordsModel", "whenHere", "()I"⟩, 63) := ⟨⟨by decide +kernel, by decide +kernel⟩, lw_m4 (i := 189) rfl, lw_m6 (i := 44) rfl, lw_m6 (i := 45) rfl⟩
set_option maxRecDepth 100000 in
theorem lw_p57 : lw_okq (⟨"CrossingWordsModel", "isLaw", "(I)Z"⟩, 63) := ⟨⟨by decide +kernel, by decide +kernel⟩, lw_m4 (i := 189) rfl, lw_m6 (i := 74) rfl, lw_m6 (i := 75) rfl⟩
set_option maxRecDepth 100000 in
theorem lw_p58 : lw_okq (⟨"CrossingWordsModel", "lays", "(II)V"⟩, 63) := ⟨⟨by decide +kernel, by decide +kernel⟩, lw_m4 (i := 189) rfl, lw_m6 (i := 78) rfl, lw_m6 (i := 79) rfl⟩
set_option maxRecDepth 100000 in
theorem lw_p59 : lw_okq (⟨"CrossingWordsModel", "bringPlain", "(I)V"⟩, 63) := ⟨⟨by decide +kernel, by decide +kernel⟩, lw_m4 (i := 189) rfl, lw_m6 (i := 90) rfl, lw_m6 (i := 91) rfl⟩
set_option maxRecDepth 100000 in
theorem lw_p60 : lw_okq (⟨"CrossingWordsModel", "bring", "(I)V"⟩, 63) := ⟨⟨by decide +kernel, by decide +kernel⟩, lw_m4 (i := 189) rfl, lw_m6 (i := 94) rfl, lw_m6 (i := 95) rfl⟩
set_option maxRecDepth 100000 in
theorem lw_p61 : lw_okq (⟨"CrossingWordsModel", "findAsked", "()V"⟩, 63) := ⟨⟨by decide +kernel, by decide +kernel⟩, lw_m4 (i := 189) rfl, lw_m6 (i := 98) rfl, lw_m6 (i := 99) rfl⟩
set_option maxRecDepth 100000 in
theorem lw_p62 : lw_okq (⟨"CrossingWordsModel", "isLooked", "()Z"⟩, 63) := ⟨⟨by decide +kernel, by decide +kernel⟩, lw_m4 (i := 189) rfl, lw_m6 (i := 102) rfl, lw_m6 (i := 103) rfl⟩
set_option maxRecDepth 100000 in
theorem lw_p63 : lw_okq (⟨"CrossingWordsModel", "hours", "(I)V"⟩, 63) := ⟨⟨by decide +kernel, by decide +kernel⟩, lw_m4 (i := 189) rfl, lw_m6 (i := 110) rfl, lw_m6 (i := 111) rfl⟩
def lw_privs_4 : List (MethodName × Nat) := [(⟨"CrossingWordsModel", "wayHere", "()I"⟩, 63), (⟨"CrossingWordsModel", "mustBe", "(J)V"⟩, 63), (⟨"CrossingWordsModel", "span", "(III)V"⟩, 63), (⟨"CrossingWordsModel", "ends", "()V"⟩, 63), (⟨"CrossingWordsModel", "isCase", "(I)Z"⟩, 63), (⟨"CrossingWordsModel", "readRules", "(I)Z"⟩, 63), (⟨"CrossingWordsModel", "readRule", "(I)V"⟩, 63), (⟨"CrossingWordsModel", "one", "(JJJ)I"⟩, 63), (⟨"CrossingWordsModel", "whenHere", "()I"⟩, 63), (⟨"CrossingWordsModel", "isLaw", "(I)Z"⟩, 63), (⟨"CrossingWordsModel", "lays", "(II)V"⟩, 63), (⟨"CrossingWordsModel", "bringPlain", "(I)V"⟩, 63), (⟨"CrossingWordsModel", "bring", "(I)V"⟩, 63), (⟨"CrossingWordsModel", "findAsked", "()V"⟩, 63), (⟨"CrossingWordsModel", "isLooked", "()Z"⟩, 63), (⟨"CrossingWordsModel", "hours", "(I)V"⟩, 63)]
theorem lw_r4 : ∀ q ∈ lw_privs_4, lw_okq q := List.forall_mem_cons.mpr ⟨lw_p48, List.forall_mem_cons.mpr ⟨lw_p49, List.forall_mem_cons.mpr ⟨lw_p50, List.forall_mem_cons.mpr ⟨lw_p51, List.forall_mem_cons.mpr ⟨lw_p52, List.forall_mem_cons.mpr ⟨lw_p53, List.forall_mem_cons.mpr ⟨lw_p54, List.forall_mem_cons.mpr ⟨lw_p55, List.forall_mem_cons.mpr ⟨lw_p56, List.forall_mem_cons.mpr ⟨lw_p57, List.forall_mem_cons.mpr ⟨lw_p58, List.forall_mem_cons.mpr ⟨lw_p59, List.forall_mem_cons.mpr ⟨lw_p60, List.forall_mem_cons.mpr ⟨lw_p61, List.forall_mem_cons.mpr ⟨lw_p62, List.forall_mem_cons.mpr ⟨lw_p63, fun _ h => absurd h List.not_mem_nil⟩⟩⟩⟩⟩⟩⟩⟩⟩⟩⟩⟩⟩⟩⟩⟩
set_option maxRecDepth 100000 in
theorem lw_p64 : lw_okq (⟨"CrossingWordsModel", "when", "(II)I"⟩, 63) := ⟨⟨by decide +kernel, by decide +kernel⟩, lw_m4 (i := 189) rfl, lw_m6 (i := 114) rfl, lw_m6 (i := 115) rfl⟩
set_option maxRecDepth 100000 in
theorem lw_p65 : lw_okq (⟨"CrossingWordsModel", "looksAt", "(III)Z"⟩, 63) := ⟨⟨by decide +kernel, by decide +kernel⟩, lw_m4 (i := 189) rfl, lw_m6 (i := 122) rfl, lw_m6 (i := 123) rfl⟩
set_option maxRecDepth 100000 in
theorem lw_p66 : lw_okq (⟨"CrossingWordsModel", "takes", "(I)V"⟩, 63) := ⟨⟨by decide +kernel, by decide +kernel⟩, lw_m4 (i := 189) rfl, lw_m6 (i := 126) rfl, lw_m6 (i := 127) rfl⟩
set_option maxRecDepth 100000 in
theorem lw_p67 : lw_okq (⟨"CrossingWordsModel", "isSureNow", "()Z"⟩, 63) := ⟨⟨by decide +kernel, by decide +kernel⟩, lw_m4 (i := 189) rfl, lw_m6 (i := 130) rfl, lw_m6 (i := 131) rfl⟩
set_option maxRecDepth 100000 in
theorem lw_p68 : lw_okq (⟨"CrossingWordsModel", "looks", "(I)V"⟩, 63) := ⟨⟨by decide +kernel, by decide +kernel⟩, lw_m4 (i := 189) rfl, lw_m6 (i := 134) rfl, lw_m6 (i := 135) rfl⟩
set_option maxRecDepth 100000 in
theorem lw_p69 : lw_okq (⟨"CrossingWordsModel", "findOffers", "()V"⟩, 63) := ⟨⟨by decide +kernel, by decide +kernel⟩, lw_m4 (i := 189) rfl, lw_m6 (i := 138) rfl, lw_m6 (i := 139) rfl⟩
set_option maxRecDepth 100000 in
theorem lw_p70 : lw_okq (⟨"CrossingWordsModel", "isOffering", "(I)Z"⟩, 63) := ⟨⟨by decide +kernel, by decide +kernel⟩, lw_m4 (i := 189) rfl, lw_m6 (i := 142) rfl, lw_m6 (i := 143) rfl⟩
set_option maxRecDepth 100000 in
theorem lw_p71 : lw_okq (⟨"CrossingWordsModel", "isSmall", "(I)Z"⟩, 63) := ⟨⟨by decide +kernel, by decide +kernel⟩, lw_m4 (i := 189) rfl, lw_m6 (i := 146) rfl, lw_m6 (i := 147) rfl⟩
set_option maxRecDepth 100000 in
theorem lw_p72 : lw_okq (⟨"CrossingWordsModel", "backHour", "(II)I"⟩, 63) := ⟨⟨by decide +kernel, by decide +kernel⟩, lw_m4 (i := 189) rfl, lw_m6 (i := 150) rfl, lw_m6 (i := 151) rfl⟩
set_option maxRecDepth 100000 in
theorem lw_p73 : lw_okq (⟨"CrossingWordsModel", "endsBy", "(III)V"⟩, 63) := ⟨⟨by decide +kernel, by decide +kernel⟩, lw_m4 (i := 189) rfl, lw_m6 (i := 154) rfl, lw_m6 (i := 155) rfl⟩
set_option maxRecDepth 100000 in
theorem lw_p74 : lw_okq (⟨"CrossingWordsModel", "noHour", "(II)I"⟩, 63) := ⟨⟨by decide +kernel, by decide +kernel⟩, lw_m4 (i := 189) rfl, lw_m6 (i := 158) rfl, lw_m6 (i := 159) rfl⟩
set_option maxRecDepth 100000 in
theorem lw_p75 : lw_okq (⟨"CrossingWordsModel", "isNo", "(I)Z"⟩, 63) := ⟨⟨by decide +kernel, by decide +kernel⟩, lw_m4 (i := 189) rfl, lw_m6 (i := 162) rfl, lw_m6 (i := 163) rfl⟩
set_option maxRecDepth 100000 in
theorem lw_p76 : lw_okq (⟨"CrossingWordsModel", "findBargain", "()V"⟩, 63) := ⟨⟨by decide +kernel, by decide +kernel⟩, lw_m4 (i := 189) rfl, lw_m6 (i := 166) rfl, lw_m6 (i := 167) rfl⟩
set_option maxRecDepth 100000 in
theorem lw_p77 : lw_okq (⟨"CrossingWordsModel", "isYes", "(I)Z"⟩, 63) := ⟨⟨by decide +kernel, by decide +kernel⟩, lw_m4 (i := 189) rfl, lw_m6 (i := 170) rfl, lw_m6 (i := 171) rfl⟩
set_option maxRecDepth 100000 in
theorem lw_p78 : lw_okq (⟨"CrossingWordsModel", "yesHour", "(I)I"⟩, 63) := ⟨⟨by decide +kernel, by decide +kernel⟩, lw_m4 (i := 189) rfl, lw_m6 (i := 174) rfl, lw_m6 (i := 175) rfl⟩
set_option maxRecDepth 100000 in
theorem lw_p79 : lw_okq (⟨"CrossingWordsModel", "isTakenBack", "(II)Z"⟩, 63) := ⟨⟨by decide +kernel, by decide +kernel⟩, lw_m4 (i := 189) rfl, lw_m6 (i := 178) rfl, lw_m6 (i := 179) rfl⟩
def lw_privs_5 : List (MethodName × Nat) := [(⟨"CrossingWordsModel", "when", "(II)I"⟩, 63), (⟨"CrossingWordsModel", "looksAt", "(III)Z"⟩, 63), (⟨"CrossingWordsModel", "takes", "(I)V"⟩, 63), (⟨"CrossingWordsModel", "isSureNow", "()Z"⟩, 63), (⟨"CrossingWordsModel", "looks", "(I)V"⟩, 63), (⟨"CrossingWordsModel", "findOffers", "()V"⟩, 63), (⟨"CrossingWordsModel", "isOffering", "(I)Z"⟩, 63), (⟨"CrossingWordsModel", "isSmall", "(I)Z"⟩, 63), (⟨"CrossingWordsModel", "backHour", "(II)I"⟩, 63), (⟨"CrossingWordsModel", "endsBy", "(III)V"⟩, 63), (⟨"CrossingWordsModel", "noHour", "(II)I"⟩, 63), (⟨"CrossingWordsModel", "isNo", "(I)Z"⟩, 63), (⟨"CrossingWordsModel", "findBargain", "()V"⟩, 63), (⟨"CrossingWordsModel", "isYes", "(I)Z"⟩, 63), (⟨"CrossingWordsModel", "yesHour", "(I)I"⟩, 63), (⟨"CrossingWordsModel", "isTakenBack", "(II)Z"⟩, 63)]
theorem lw_r5 : ∀ q ∈ lw_privs_5, lw_okq q := List.forall_mem_cons.mpr ⟨lw_p64, List.forall_mem_cons.mpr ⟨lw_p65, List.forall_mem_cons.mpr ⟨lw_p66, List.forall_mem_cons.mpr ⟨lw_p67, List.forall_mem_cons.mpr ⟨lw_p68, List.forall_mem_cons.mpr ⟨lw_p69, List.forall_mem_cons.mpr ⟨lw_p70, List.forall_mem_cons.mpr ⟨lw_p71, List.forall_mem_cons.mpr ⟨lw_p72, List.forall_mem_cons.mpr ⟨lw_p73, List.forall_mem_cons.mpr ⟨lw_p74, List.forall_mem_cons.mpr ⟨lw_p75, List.forall_mem_cons.mpr ⟨lw_p76, List.forall_mem_cons.mpr ⟨lw_p77, List.forall_mem_cons.mpr ⟨lw_p78, List.forall_mem_cons.mpr ⟨lw_p79, fun _ h => absurd h List.not_mem_nil⟩⟩⟩⟩⟩⟩⟩⟩⟩⟩⟩⟩⟩⟩⟩⟩
set_option maxRecDepth 100000 in
theorem lw_p80 : lw_okq (⟨"CrossingWordsModel", "isOpenAt", "(II)Z"⟩, 63) := ⟨⟨by decide +kernel, by decide +kernel⟩, lw_m4 (i := 189) rfl, lw_m6 (i := 182) rfl, lw_m6 (i := 183) rfl⟩
set_option maxRecDepth 100000 in
theorem lw_p81 : lw_okq (⟨"CrossingWordsModel", "offersTo", "(III)V"⟩, 63) := ⟨⟨by decide +kernel, by decide +kernel⟩, lw_m4 (i := 189) rfl, lw_m6 (i := 186) rfl, lw_m6 (i := 187) rfl⟩
set_option maxRecDepth 100000 in
theorem lw_p82 : lw_okq (⟨"CrossingWordsModel", "isAnswered", "(II)Z"⟩, 63) := ⟨⟨by decide +kernel, by decide +kernel⟩, lw_m4 (i := 189) rfl, lw_m6 (i := 190) rfl, lw_m6 (i := 191) rfl⟩
set_option maxRecDepth 100000 in
theorem lw_p83 : lw_okq (⟨"CrossingWordsModel", "bargainWord", "(I)I"⟩, 63) := ⟨⟨by decide +kernel, by decide +kernel⟩, lw_m4 (i := 189) rfl, lw_m6 (i := 194) rfl, lw_m6 (i := 195) rfl⟩
set_option maxRecDepth 100000 in
theorem lw_p84 : lw_okq (⟨"CrossingWordsModel", "wordOf", "(II)I"⟩, 63) := ⟨⟨by decide +kernel, by decide +kernel⟩, lw_m4 (i := 189) rfl, lw_m6 (i := 198) rfl, lw_m6 (i := 199) rfl⟩
set_option maxRecDepth 100000 in
theorem lw_p85 : lw_okq (⟨"CrossingWordsModel", "tells", "(I)Z"⟩, 63) := ⟨⟨by decide +kernel, by decide +kernel⟩, lw_m4 (i := 189) rfl, lw_m6 (i := 221) rfl, lw_m6 (i := 222) rfl⟩
set_option maxRecDepth 100000 in
theorem lw_p86 : lw_okq (⟨"CrossingWordsModel", "known", "(II)I"⟩, 63) := ⟨⟨by decide +kernel, by decide +kernel⟩, lw_m4 (i := 189) rfl, lw_m6 (i := 225) rfl, lw_m6 (i := 226) rfl⟩
set_option maxRecDepth 100000 in
theorem lw_p87 : lw_okq (⟨"CrossingWordsModel", "findApart", "(III)Z"⟩, 63) := ⟨⟨by decide +kernel, by decide +kernel⟩, lw_m4 (i := 189) rfl, lw_m7 (i := 1) rfl, lw_m7 (i := 2) rfl⟩
set_option maxRecDepth 100000 in
theorem lw_p88 : lw_okq (⟨"CrossingWordsModel", "isWritten", "(II)Z"⟩, 63) := ⟨⟨by decide +kernel, by decide +kernel⟩, lw_m4 (i := 189) rfl, lw_m7 (i := 13) rfl, lw_m7 (i := 14) rfl⟩
set_option maxRecDepth 100000 in
theorem lw_p89 : lw_okq (⟨"CrossingWordsModel", "canAt", "(II)I"⟩, 63) := ⟨⟨by decide +kernel, by decide +kernel⟩, lw_m4 (i := 189) rfl, lw_m7 (i := 25) rfl, lw_m7 (i := 26) rfl⟩
set_option maxRecDepth 100000 in
theorem lw_p90 : lw_okq (⟨"CrossingWordsModel", "isSaid", "(III)Z"⟩, 63) := ⟨⟨by decide +kernel, by decide +kernel⟩, lw_m4 (i := 189) rfl, lw_m7 (i := 37) rfl, lw_m7 (i := 38) rfl⟩
set_option maxRecDepth 100000 in
theorem lw_p91 : lw_okq (⟨"CrossingWordsModel", "withBargain", "()I"⟩, 63) := ⟨⟨by decide +kernel, by decide +kernel⟩, lw_m4 (i := 189) rfl, lw_m7 (i := 41) rfl, lw_m7 (i := 42) rfl⟩
set_option maxRecDepth 100000 in
theorem lw_p92 : lw_okq (⟨"CrossingWordsModel", "copies", "(II)V"⟩, 63) := ⟨⟨by decide +kernel, by decide +kernel⟩, lw_m4 (i := 189) rfl, lw_m7 (i := 53) rfl, lw_m7 (i := 54) rfl⟩
set_option maxRecDepth 100000 in
theorem lw_p93 : lw_okq (⟨"CrossingWordsModel", "sayingsInAll", "()I"⟩, 63) := ⟨⟨by decide +kernel, by decide +kernel⟩, lw_m4 (i := 189) rfl, lw_m7 (i := 65) rfl, lw_m7 (i := 66) rfl⟩
def lw_privs_6 : List (MethodName × Nat) := [(⟨"CrossingWordsModel", "isOpenAt", "(II)Z"⟩, 63), (⟨"CrossingWordsModel", "offersTo", "(III)V"⟩, 63), (⟨"CrossingWordsModel", "isAnswered", "(II)Z"⟩, 63), (⟨"CrossingWordsModel", "bargainWord", "(I)I"⟩, 63), (⟨"CrossingWordsModel", "wordOf", "(II)I"⟩, 63), (⟨"CrossingWordsModel", "tells", "(I)Z"⟩, 63), (⟨"CrossingWordsModel", "known", "(II)I"⟩, 63), (⟨"CrossingWordsModel", "findApart", "(III)Z"⟩, 63), (⟨"CrossingWordsModel", "isWritten", "(II)Z"⟩, 63), (⟨"CrossingWordsModel", "canAt", "(II)I"⟩, 63), (⟨"CrossingWordsModel", "isSaid", "(III)Z"⟩, 63), (⟨"CrossingWordsModel", "withBargain", "()I"⟩, 63), (⟨"CrossingWordsModel", "copies", "(II)V"⟩, 63), (⟨"CrossingWordsModel", "sayingsInAll", "()I"⟩, 63)]
theorem lw_r6 : ∀ q ∈ lw_privs_6, lw_okq q := List.forall_mem_cons.mpr ⟨lw_p80, List.forall_mem_cons.mpr ⟨lw_p81, List.forall_mem_cons.mpr ⟨lw_p82, List.forall_mem_cons.mpr ⟨lw_p83, List.forall_mem_cons.mpr ⟨lw_p84, List.forall_mem_cons.mpr ⟨lw_p85, List.forall_mem_cons.mpr ⟨lw_p86, List.forall_mem_cons.mpr ⟨lw_p87, List.forall_mem_cons.mpr ⟨lw_p88, List.forall_mem_cons.mpr ⟨lw_p89, List.forall_mem_cons.mpr ⟨lw_p90, List.forall_mem_cons.mpr ⟨lw_p91, List.forall_mem_cons.mpr ⟨lw_p92, List.forall_mem_cons.mpr ⟨lw_p93, fun _ h => absurd h List.not_mem_nil⟩⟩⟩⟩⟩⟩⟩⟩⟩⟩⟩⟩⟩⟩
def lw_privs : List (MethodName × Nat) := lw_privs_1 ++ (lw_privs_2 ++ (lw_privs_3 ++ (lw_privs_4 ++ (lw_privs_5 ++ (lw_privs_6)))))
def lw_tbl : List Cond := k2_sels lw_privs ++ tables_1
set_option maxRecDepth 100000 in
theorem lw_privs_ok : ∀ q ∈ lw_privs, lw_okq q := by
  show ∀ q ∈ lw_privs_1 ++ (lw_privs_2 ++ (lw_privs_3 ++ (lw_privs_4 ++ (lw_privs_5 ++ (lw_privs_6))))), lw_okq q
  exact List.forall_mem_append.mpr ⟨lw_r1, List.forall_mem_append.mpr ⟨lw_r2, List.forall_mem_append.mpr ⟨lw_r3, List.forall_mem_append.mpr ⟨lw_r4, List.forall_mem_append.mpr ⟨lw_r5, lw_r6⟩⟩⟩⟩⟩
