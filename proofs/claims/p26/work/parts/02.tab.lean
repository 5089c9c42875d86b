def RX0 : String := "CrossingWords$Bench"
def TX0 : u_T := fun k => match k with
  | 0 => ("CrossingWords$Bench", "hours", "[I", true)
  | 1 => ("CrossingWords$Bench", "turnHeard", "[I", true)
  | 2 => ("CrossingWords$Bench", "offers", "[Z", true)
  | 3 => ("CrossingWords$Bench", "yeses", "[Z", true)
  | 4 => ("CrossingWords$Bench", "inVain", "[Z", true)
  | 5 => ("CrossingWords$Bench", "from", "[I", true)
  | 6 => ("CrossingWords$Bench", "end", "[I", true)
  | 7 => ("CrossingWords$Bench", "why", "[I", true)
  | 8 => ("CrossingWords$Bench", "endedBy", "[I", true)
  | 9 => ("CrossingWords$Bench", "takenBackAt", "[I", true)
  | 10 => ("CrossingWords$Bench", "answeredAt", "[I", true)
  | 11 => ("CrossingWords$Bench", "rules", "[I", false)
  | 12 => ("CrossingWords$Bench", "tale", "LCrossingWords$Case;", false)
  | 13 => ("CrossingWords$Bench", "madeBy", "I", false)
  | 14 => ("CrossingWords$Bench", "madeOf", "I", false)
  | _ => ("CrossingWords$Bench", "madeAt", "I", false)
def tyX0 : Nat → FieldType := fun k => match k with
  | 0 => .array .int
  | 1 => .array .int
  | 2 => .array .boolean
  | 3 => .array .boolean
  | 4 => .array .boolean
  | 5 => .array .int
  | 6 => .array .int
  | 7 => .array .int
  | 8 => .array .int
  | 9 => .array .int
  | 10 => .array .int
  | 11 => .array .int
  | 12 => .object "CrossingWords$Case"
  | 13 => .int
  | 14 => .int
  | _ => .int
theorem nmX0 : ∀ a, a < 16 → ∀ b, b < 16 → a ≠ b → (TX0 a).2.1 ≠ (TX0 b).2.1 := by decide +kernel
theorem tyX0_ok : ∀ k, k < 16 → parseFieldDescriptor (TX0 k).2.2.1 = some (tyX0 k) := by decide +kernel
def RX1 : String := "CrossingWords$Case"
def TX1 : u_T := fun k => match k with
  | 0 => ("CrossingWords$Case", "cells", "[I", true)
  | 1 => ("CrossingWords$Case", "size", "I", true)
  | 2 => ("CrossingWords$Case", "askedOnes", "I", true)
  | _ => ("CrossingWords$Case", "combos", "I", true)
def tyX1 : Nat → FieldType := fun k => match k with
  | 0 => .array .int
  | 1 => .int
  | 2 => .int
  | _ => .int
theorem nmX1 : ∀ a, a < 4 → ∀ b, b < 4 → a ≠ b → (TX1 a).2.1 ≠ (TX1 b).2.1 := by decide +kernel
theorem tyX1_ok : ∀ k, k < 4 → parseFieldDescriptor (TX1 k).2.2.1 = some (tyX1 k) := by decide +kernel
def RX2 : String := "CrossingWords$CaseReader"
def TX2 : u_T := fun k => match k with
  | 0 => ("CrossingWords$CaseReader", "tape", "LCrossingWords$Tape;", true)
  | 1 => ("CrossingWords$CaseReader", "cells", "[I", true)
  | _ => ("CrossingWords$CaseReader", "casesAhead", "I", false)
def tyX2 : Nat → FieldType := fun k => match k with
  | 0 => .object "CrossingWords$Tape"
  | 1 => .array .int
  | _ => .int
theorem nmX2 : ∀ a, a < 3 → ∀ b, b < 3 → a ≠ b → (TX2 a).2.1 ≠ (TX2 b).2.1 := by decide +kernel
theorem tyX2_ok : ∀ k, k < 3 → parseFieldDescriptor (TX2 k).2.2.1 = some (tyX2 k) := by decide +kernel
def RX3 : String := "CrossingWords$Court"
def TX3 : u_T := fun k => match k with
  | 0 => ("CrossingWords$Court", "shelf", "LCrossingWords$Shelf;", true)
  | 1 => ("CrossingWords$Court", "bench", "LCrossingWords$Bench;", true)
  | 2 => ("CrossingWords$Court", "otherBench", "LCrossingWords$Bench;", true)
  | 3 => ("CrossingWords$Court", "givenBench", "LCrossingWords$Bench;", true)
  | 4 => ("CrossingWords$Court", "sureCases", "[I", true)
  | 5 => ("CrossingWords$Court", "needed", "[Z", true)
  | 6 => ("CrossingWords$Court", "bargainIn", "[Z", true)
  | 7 => ("CrossingWords$Court", "mixed", "[I", true)
  | 8 => ("CrossingWords$Court", "tally", "[I", true)
  | 9 => ("CrossingWords$Court", "hardLaw", "I", false)
  | _ => ("CrossingWords$Court", "hardCombo", "I", false)
def tyX3 : Nat → FieldType := fun k => match k with
  | 0 => .object "CrossingWords$Shelf"
  | 1 => .object "CrossingWords$Bench"
  | 2 => .object "CrossingWords$Bench"
  | 3 => .object "CrossingWords$Bench"
  | 4 => .array .int
  | 5 => .array .boolean
  | 6 => .array .boolean
  | 7 => .array .int
  | 8 => .array .int
  | 9 => .int
  | _ => .int
theorem nmX3 : ∀ a, a < 11 → ∀ b, b < 11 → a ≠ b → (TX3 a).2.1 ≠ (TX3 b).2.1 := by decide +kernel
theorem tyX3_ok : ∀ k, k < 11 → parseFieldDescriptor (TX3 k).2.2.1 = some (tyX3 k) := by decide +kernel
def RX4 : String := "CrossingWords$LawReader"
def TX4 : u_T := fun k => match k with
  | 0 => ("CrossingWords$LawReader", "tape", "LCrossingWords$Tape;", true)
  | _ => ("CrossingWords$LawReader", "told", "[I", true)
def tyX4 : Nat → FieldType := fun k => match k with
  | 0 => .object "CrossingWords$Tape"
  | _ => .array .int
theorem nmX4 : ∀ a, a < 2 → ∀ b, b < 2 → a ≠ b → (TX4 a).2.1 ≠ (TX4 b).2.1 := by decide +kernel
theorem tyX4_ok : ∀ k, k < 2 → parseFieldDescriptor (TX4 k).2.2.1 = some (tyX4 k) := by decide +kernel
def RX5 : String := "CrossingWords$Shelf"
def TX5 : u_T := fun k => match k with
  | 0 => ("CrossingWords$Shelf", "cases", "[LCrossingWords$Case;", true)
  | 1 => ("CrossingWords$Shelf", "laws", "[[I", true)
  | 2 => ("CrossingWords$Shelf", "clauses", "[[I", true)
  | 3 => ("CrossingWords$Shelf", "caseCount", "I", false)
  | 4 => ("CrossingWords$Shelf", "lawCount", "I", false)
  | _ => ("CrossingWords$Shelf", "clauseCount", "I", false)
def tyX5 : Nat → FieldType := fun k => match k with
  | 0 => .array (.object "CrossingWords$Case")
  | 1 => .array (.array .int)
  | 2 => .array (.array .int)
  | 3 => .int
  | 4 => .int
  | _ => .int
theorem nmX5 : ∀ a, a < 6 → ∀ b, b < 6 → a ≠ b → (TX5 a).2.1 ≠ (TX5 b).2.1 := by decide +kernel
theorem tyX5_ok : ∀ k, k < 6 → parseFieldDescriptor (TX5 k).2.2.1 = some (tyX5 k) := by decide +kernel
def RX6 : String := "CrossingWords$Tape"
def TX6 : u_T := fun k => match k with
  | 0 => ("CrossingWords$Tape", "bytes", "[B", true)
  | 1 => ("CrossingWords$Tape", "length", "I", false)
  | 2 => ("CrossingWords$Tape", "limit", "I", false)
  | 3 => ("CrossingWords$Tape", "place", "I", false)
  | 4 => ("CrossingWords$Tape", "behind", "I", false)
  | 5 => ("CrossingWords$Tape", "sort", "I", false)
  | _ => ("CrossingWords$Tape", "failedAt", "I", false)
def tyX6 : Nat → FieldType := fun k => match k with
  | 0 => .array .byte
  | 1 => .int
  | 2 => .int
  | 3 => .int
  | 4 => .int
  | 5 => .int
  | _ => .int
theorem nmX6 : ∀ a, a < 7 → ∀ b, b < 7 → a ≠ b → (TX6 a).2.1 ≠ (TX6 b).2.1 := by decide +kernel
theorem tyX6_ok : ∀ k, k < 7 → parseFieldDescriptor (TX6 k).2.2.1 = some (tyX6 k) := by decide +kernel
def RX7 : String := "CrossingWords"
def TX7 : u_T := fun k => match k with
  | 0 => ("CrossingWords", "tape", "LCrossingWords$Tape;", true)
  | 1 => ("CrossingWords", "shelf", "LCrossingWords$Shelf;", true)
  | 2 => ("CrossingWords", "images", "[LCrossingWords$Shelf;", true)
  | 3 => ("CrossingWords", "caseReader", "LCrossingWords$CaseReader;", true)
  | 4 => ("CrossingWords", "lawReader", "LCrossingWords$LawReader;", true)
  | 5 => ("CrossingWords", "court", "LCrossingWords$Court;", true)
  | 6 => ("CrossingWords", "nothingTold", "LCrossingWords$Case;", true)
  | 7 => ("CrossingWords", "imageCount", "I", false)
  | _ => ("CrossingWords", "faultPlace", "I", false)
def tyX7 : Nat → FieldType := fun k => match k with
  | 0 => .object "CrossingWords$Tape"
  | 1 => .object "CrossingWords$Shelf"
  | 2 => .array (.object "CrossingWords$Shelf")
  | 3 => .object "CrossingWords$CaseReader"
  | 4 => .object "CrossingWords$LawReader"
  | 5 => .object "CrossingWords$Court"
  | 6 => .object "CrossingWords$Case"
  | 7 => .int
  | _ => .int
theorem nmX7 : ∀ a, a < 9 → ∀ b, b < 9 → a ≠ b → (TX7 a).2.1 ≠ (TX7 b).2.1 := by decide +kernel
theorem tyX7_ok : ∀ k, k < 9 → parseFieldDescriptor (TX7 k).2.2.1 = some (tyX7 k) := by decide +kernel
def RX8 : String := "CrossingWordsModel"
def TX8 : u_T := fun k => match k with
  | 0 => ("CrossingWordsModel", "cases", "[I", true)
  | 1 => ("CrossingWordsModel", "laws", "[I", true)
  | 2 => ("CrossingWordsModel", "clauses", "[I", true)
  | 3 => ("CrossingWordsModel", "many", "[I", true)
  | 4 => ("CrossingWordsModel", "what", "[I", true)
  | 5 => ("CrossingWordsModel", "hand", "[I", true)
  | 6 => ("CrossingWordsModel", "whom", "[I", true)
  | 7 => ("CrossingWordsModel", "said", "[I", true)
  | 8 => ("CrossingWordsModel", "way", "[I", true)
  | 9 => ("CrossingWordsModel", "hold", "[I", true)
  | 10 => ("CrossingWordsModel", "given", "[I", true)
  | 11 => ("CrossingWordsModel", "loss", "[I", true)
  | 12 => ("CrossingWordsModel", "word", "[I", true)
  | 13 => ("CrossingWordsModel", "low", "[I", true)
  | 14 => ("CrossingWordsModel", "high", "[I", true)
  | 15 => ("CrossingWordsModel", "rule", "[I", true)
  | 16 => ("CrossingWordsModel", "tape", "[B", true)
  | 17 => ("CrossingWordsModel", "taped", "I", false)
  | 18 => ("CrossingWordsModel", "faultAt", "I", false)
  | 19 => ("CrossingWordsModel", "limit", "I", false)
  | 20 => ("CrossingWordsModel", "point", "I", false)
  | 21 => ("CrossingWordsModel", "from", "I", false)
  | 22 => ("CrossingWordsModel", "token", "I", false)
  | 23 => ("CrossingWordsModel", "value", "I", false)
  | 24 => ("CrossingWordsModel", "text", "J", false)
  | 25 => ("CrossingWordsModel", "isWrong", "Z", false)
  | 26 => ("CrossingWordsModel", "rules", "[I", true)
  | 27 => ("CrossingWordsModel", "n", "I", false)
  | 28 => ("CrossingWordsModel", "asked0", "I", false)
  | 29 => ("CrossingWordsModel", "combos", "I", false)
  | 30 => ("CrossingWordsModel", "wWhat", "[I", true)
  | 31 => ("CrossingWordsModel", "wWay", "[I", true)
  | 32 => ("CrossingWordsModel", "wLoss", "[I", true)
  | 33 => ("CrossingWordsModel", "wHold", "[I", true)
  | 34 => ("CrossingWordsModel", "wSaid", "[I", true)
  | 35 => ("CrossingWordsModel", "wHand", "[I", true)
  | 36 => ("CrossingWordsModel", "wWhom", "[I", true)
  | 37 => ("CrossingWordsModel", "isBarred", "[Z", true)
  | 38 => ("CrossingWordsModel", "wWord", "[I", true)
  | 39 => ("CrossingWordsModel", "wLow", "[I", true)
  | 40 => ("CrossingWordsModel", "wHigh", "[I", true)
  | 41 => ("CrossingWordsModel", "askedOf", "[I", true)
  | 42 => ("CrossingWordsModel", "radix", "[I", true)
  | 43 => ("CrossingWordsModel", "sent", "[I", true)
  | 44 => ("CrossingWordsModel", "comes", "[I", true)
  | 45 => ("CrossingWordsModel", "isRead", "[I", true)
  | 46 => ("CrossingWordsModel", "pick", "[I", true)
  | 47 => ("CrossingWordsModel", "opens", "[I", true)
  | 48 => ("CrossingWordsModel", "endsAt", "[I", true)
  | 49 => ("CrossingWordsModel", "why", "[I", true)
  | 50 => ("CrossingWordsModel", "has", "Z", false)
  | 51 => ("CrossingWordsModel", "byYes", "I", false)
  | 52 => ("CrossingWordsModel", "byOffer", "I", false)
  | 53 => ("CrossingWordsModel", "atHour", "I", false)
  | 54 => ("CrossingWordsModel", "isSure", "[Z", true)
  | 55 => ("CrossingWordsModel", "isNeeded", "[Z", true)
  | 56 => ("CrossingWordsModel", "hasBy", "[Z", true)
  | 57 => ("CrossingWordsModel", "met", "[I", true)
  | 58 => ("CrossingWordsModel", "firstYes", "[I", true)
  | 59 => ("CrossingWordsModel", "firstWords", "[I", true)
  | 60 => ("CrossingWordsModel", "apartCount", "I", false)
  | 61 => ("CrossingWordsModel", "apartFirst", "I", false)
  | _ => ("CrossingWordsModel", "images", "I", false)
def tyX8 : Nat → FieldType := fun k => match k with
  | 0 => .array .int
  | 1 => .array .int
  | 2 => .array .int
  | 3 => .array .int
  | 4 => .array .int
  | 5 => .array .int
  | 6 => .array .int
  | 7 => .array .int
  | 8 => .array .int
  | 9 => .array .int
  | 10 => .array .int
  | 11 => .array .int
  | 12 => .array .int
  | 13 => .array .int
  | 14 => .array .int
  | 15 => .array .int
  | 16 => .array .byte
  | 17 => .int
  | 18 => .int
  | 19 => .int
  | 20 => .int
  | 21 => .int
  | 22 => .int
  | 23 => .int
  | 24 => .long
  | 25 => .boolean
  | 26 => .array .int
  | 27 => .int
  | 28 => .int
  | 29 => .int
  | 30 => .array .int
  | 31 => .array .int
  | 32 => .array .int
  | 33 => .array .int
  | 34 => .array .int
  | 35 => .array .int
  | 36 => .array .int
  | 37 => .array .boolean
  | 38 => .array .int
  | 39 => .array .int
  | 40 => .array .int
  | 41 => .array .int
  | 42 => .array .int
  | 43 => .array .int
  | 44 => .array .int
  | 45 => .array .int
  | 46 => .array .int
  | 47 => .array .int
  | 48 => .array .int
  | 49 => .array .int
  | 50 => .boolean
  | 51 => .int
  | 52 => .int
  | 53 => .int
  | 54 => .array .boolean
  | 55 => .array .boolean
  | 56 => .array .boolean
  | 57 => .array .int
  | 58 => .array .int
  | 59 => .array .int
  | 60 => .int
  | 61 => .int
  | _ => .int
theorem nmX8 : ∀ a, a < 63 → ∀ b, b < 63 → a ≠ b → (TX8 a).2.1 ≠ (TX8 b).2.1 := by decide +kernel
theorem tyX8_ok : ∀ k, k < 63 → parseFieldDescriptor (TX8 k).2.2.1 = some (tyX8 k) := by decide +kernel
def av_cn : Nat → String := fun k => match k with
  | 0 => RX0
  | 1 => RX1
  | 2 => RX2
  | 3 => RX3
  | 4 => RX4
  | 5 => RX5
  | 6 => RX6
  | 7 => RX7
  | 8 => RX8
  | 9 => "CrossingWordsLaw"
  | 10 => "java/util/Arrays"
  | 11 => "java/lang/Integer"
  | 12 => "java/lang/Math"
  | 13 => "java/lang/System"
  | 14 => "java/lang/String"
  | _ => "java/lang/Object"
def av_T : Nat → u_T := fun k => match k with
  | 0 => TX0
  | 1 => TX1
  | 2 => TX2
  | 3 => TX3
  | 4 => TX4
  | 5 => TX5
  | 6 => TX6
  | 7 => TX7
  | _ => TX8
def av_N : Nat → Nat := fun k => match k with
  | 0 => 16
  | 1 => 4
  | 2 => 3
  | 3 => 11
  | 4 => 2
  | 5 => 6
  | 6 => 7
  | 7 => 9
  | _ => 63
def av_ty : Nat → (Nat → FieldType) := fun k => match k with
  | 0 => tyX0
  | 1 => tyX1
  | 2 => tyX2
  | 3 => tyX3
  | 4 => tyX4
  | 5 => tyX5
  | 6 => tyX6
  | 7 => tyX7
  | _ => tyX8
theorem av_mem {w : Cond} {i : Nat} (h : tables_1[i]? = some w) : w ∈ lw_tbl := List.mem_append_right _ (List.mem_of_getElem? h)
theorem av_m1 {w : Cond} {i : Nat} (h : tables_1_1[i]? = some w) : w ∈ lw_tbl := List.mem_append_right _ (lw_m1 h)
theorem av_m2 {w : Cond} {i : Nat} (h : tables_1_2[i]? = some w) : w ∈ lw_tbl := List.mem_append_right _ (lw_m2 h)
theorem av_m3 {w : Cond} {i : Nat} (h : tables_1_3[i]? = some w) : w ∈ lw_tbl := List.mem_append_right _ (lw_m3 h)
theorem av_m4 {w : Cond} {i : Nat} (h : tables_1_4[i]? = some w) : w ∈ lw_tbl := List.mem_append_right _ (lw_m4 h)
theorem av_m5 {w : Cond} {i : Nat} (h : tables_1_5[i]? = some w) : w ∈ lw_tbl := List.mem_append_right _ (lw_m5 h)
theorem av_m6 {w : Cond} {i : Nat} (h : tables_1_6[i]? = some w) : w ∈ lw_tbl := List.mem_append_right _ (lw_m6 h)
theorem av_m7 {w : Cond} {i : Nat} (h : tables_1_7[i]? = some w) : w ∈ lw_tbl := List.mem_append_right _ (lw_m7 h)
theorem av_sub1 {ws : List Cond} (is : List Nat) (h : ws = is.filterMap (fun i => tables_1_1[i]?)) : ∀ w ∈ ws, w ∈ lw_tbl := by
  intro w hw
  rw [h] at hw
  obtain ⟨i, -, hi⟩ := List.mem_filterMap.mp hw
  exact av_m1 hi
theorem av_sub2 {ws : List Cond} (is : List Nat) (h : ws = is.filterMap (fun i => tables_1_2[i]?)) : ∀ w ∈ ws, w ∈ lw_tbl := by
  intro w hw
  rw [h] at hw
  obtain ⟨i, -, hi⟩ := List.mem_filterMap.mp hw
  exact av_m2 hi
theorem av_sub3 {ws : List Cond} (is : List Nat) (h : ws = is.filterMap (fun i => tables_1_3[i]?)) : ∀ w ∈ ws, w ∈ lw_tbl := by
  intro w hw
  rw [h] at hw
  obtain ⟨i, -, hi⟩ := List.mem_filterMap.mp hw
  exact av_m3 hi
theorem av_sub4 {ws : List Cond} (is : List Nat) (h : ws = is.filterMap (fun i => tables_1_4[i]?)) : ∀ w ∈ ws, w ∈ lw_tbl := by
  intro w hw
  rw [h] at hw
  obtain ⟨i, -, hi⟩ := List.mem_filterMap.mp hw
  exact av_m4 hi
theorem av_sub5 {ws : List Cond} (is : List Nat) (h : ws = is.filterMap (fun i => tables_1_5[i]?)) : ∀ w ∈ ws, w ∈ lw_tbl := by
  intro w hw
  rw [h] at hw
  obtain ⟨i, -, hi⟩ := List.mem_filterMap.mp hw
  exact av_m5 hi
theorem av_sub6 {ws : List Cond} (is : List Nat) (h : ws = is.filterMap (fun i => tables_1_6[i]?)) : ∀ w ∈ ws, w ∈ lw_tbl := by
  intro w hw
  rw [h] at hw
  obtain ⟨i, -, hi⟩ := List.mem_filterMap.mp hw
  exact av_m6 hi
theorem av_sub7 {ws : List Cond} (is : List Nat) (h : ws = is.filterMap (fun i => tables_1_7[i]?)) : ∀ w ∈ ws, w ∈ lw_tbl := by
  intro w hw
  rw [h] at hw
  obtain ⟨i, -, hi⟩ := List.mem_filterMap.mp hw
  exact av_m7 hi
theorem av_sub {ws : List Cond} (is : List Nat) (h : ws = is.filterMap (fun i => tables_1[i]?)) : ∀ w ∈ ws, w ∈ lw_tbl := by
  intro w hw
  rw [h] at hw
  obtain ⟨i, -, hi⟩ := List.mem_filterMap.mp hw
  exact av_mem hi
set_option maxRecDepth 100000 in
theorem av_lay0 : ∀ w ∈ u_ws RX0 TX0 16, w ∈ lw_tbl := av_sub [214, 216, 218, 220, 222, 224, 226, 228, 230, 232, 234, 236, 238, 240, 242, 244] rfl
set_option maxRecDepth 100000 in
theorem av_inst0 : Cond.instantiable RX0 16 ∈ lw_tbl ∧ Cond.initialized RX0 ∈ lw_tbl := ⟨av_m1 (i := 184) rfl, av_m1 (i := 11) rfl⟩
set_option maxRecDepth 100000 in
theorem av_lay1 : ∀ w ∈ u_ws RX1 TX1 4, w ∈ lw_tbl := av_sub1 [173, 175, 177, 179] rfl
set_option maxRecDepth 100000 in
theorem av_inst1 : Cond.instantiable RX1 4 ∈ lw_tbl ∧ Cond.initialized RX1 ∈ lw_tbl := ⟨av_m1 (i := 134) rfl, av_m1 (i := 7) rfl⟩
set_option maxRecDepth 100000 in
theorem av_lay2 : ∀ w ∈ u_ws RX2 TX2 3, w ∈ lw_tbl := av_sub1 [106, 108, 110] rfl
set_option maxRecDepth 100000 in
theorem av_inst2 : Cond.instantiable RX2 3 ∈ lw_tbl ∧ Cond.initialized RX2 ∈ lw_tbl := ⟨av_m1 (i := 98) rfl, av_m1 (i := 4) rfl⟩
set_option maxRecDepth 100000 in
theorem av_lay3 : ∀ w ∈ u_ws RX3 TX3 11, w ∈ lw_tbl := av_sub2 [20, 22, 24, 26, 28, 30, 32, 34, 36, 38, 40] rfl
set_option maxRecDepth 100000 in
theorem av_inst3 : Cond.instantiable RX3 11 ∈ lw_tbl ∧ Cond.initialized RX3 ∈ lw_tbl := ⟨av_m1 (i := 128) rfl, av_m1 (i := 6) rfl⟩
set_option maxRecDepth 100000 in
theorem av_lay4 : ∀ w ∈ u_ws RX4 TX4 2, w ∈ lw_tbl := av_sub1 [122, 124] rfl
set_option maxRecDepth 100000 in
theorem av_inst4 : Cond.instantiable RX4 2 ∈ lw_tbl ∧ Cond.initialized RX4 ∈ lw_tbl := ⟨av_m1 (i := 114) rfl, av_m1 (i := 5) rfl⟩
set_option maxRecDepth 100000 in
theorem av_lay5 : ∀ w ∈ u_ws RX5 TX5 6, w ∈ lw_tbl := av_sub1 [82, 84, 86, 88, 90, 92] rfl
set_option maxRecDepth 100000 in
theorem av_inst5 : Cond.instantiable RX5 6 ∈ lw_tbl ∧ Cond.initialized RX5 ∈ lw_tbl := ⟨av_m1 (i := 60) rfl, av_m1 (i := 3) rfl⟩
set_option maxRecDepth 100000 in
theorem av_lay6 : ∀ w ∈ u_ws RX6 TX6 7, w ∈ lw_tbl := av_sub1 [43, 45, 47, 49, 51, 53, 55] rfl
set_option maxRecDepth 100000 in
theorem av_inst6 : Cond.instantiable RX6 7 ∈ lw_tbl ∧ Cond.initialized RX6 ∈ lw_tbl := ⟨av_m1 (i := 27) rfl, av_m1 (i := 2) rfl⟩
set_option maxRecDepth 100000 in
theorem av_lay7 : ∀ w ∈ u_ws RX7 TX7 9, w ∈ lw_tbl := av_sub2 [54, 56, 58, 60, 62, 64, 66, 68, 70] rfl
set_option maxRecDepth 100000 in
theorem av_inst7 : Cond.instantiable RX7 9 ∈ lw_tbl ∧ Cond.initialized RX7 ∈ lw_tbl := ⟨av_m1 (i := 19) rfl, av_m1 (i := 1) rfl⟩
set_option maxRecDepth 100000 in
theorem av_lay8 : ∀ w ∈ u_ws RX8 TX8 63, w ∈ lw_tbl := av_sub5 [17, 19, 21, 23, 25, 27, 29, 31, 33, 35, 37, 39, 41, 43, 45, 47, 49, 51, 53, 55, 57, 59, 61, 63, 65, 67, 69, 71, 73, 75, 77, 79, 81, 83, 85, 87, 89, 91, 93, 95, 97, 99, 101, 103, 105, 107, 109, 111, 113, 115, 117, 119, 121, 123, 125, 127, 129, 131, 133, 135, 137, 139, 141] rfl
set_option maxRecDepth 100000 in
theorem av_inst8 : Cond.instantiable RX8 63 ∈ lw_tbl ∧ Cond.initialized RX8 ∈ lw_tbl := ⟨av_m4 (i := 189) rfl, av_m1 (i := 12) rfl⟩
theorem av_lay : ∀ ci, ci < 9 → ∀ w ∈ u_ws (av_cn ci) (av_T ci) (av_N ci), w ∈ lw_tbl := fun ci h => match ci, h with
  | 0, _ => av_lay0
  | 1, _ => av_lay1
  | 2, _ => av_lay2
  | 3, _ => av_lay3
  | 4, _ => av_lay4
  | 5, _ => av_lay5
  | 6, _ => av_lay6
  | 7, _ => av_lay7
  | 8, _ => av_lay8
  | k + 9, h => absurd h (by omega)
theorem av_inst : ∀ ci, ci < 9 → Cond.instantiable (av_cn ci) (av_N ci) ∈ lw_tbl ∧ Cond.initialized (av_cn ci) ∈ lw_tbl := fun ci h => match ci, h with
  | 0, _ => av_inst0
  | 1, _ => av_inst1
  | 2, _ => av_inst2
  | 3, _ => av_inst3
  | 4, _ => av_inst4
  | 5, _ => av_inst5
  | 6, _ => av_inst6
  | 7, _ => av_inst7
  | 8, _ => av_inst8
  | k + 9, h => absurd h (by omega)
theorem av_nm : ∀ ci, ci < 9 → ∀ a, a < av_N ci → ∀ b, b < av_N ci → a ≠ b → ((av_T ci) a).2.1 ≠ ((av_T ci) b).2.1 := fun ci h => match ci, h with
  | 0, _ => nmX0
  | 1, _ => nmX1
  | 2, _ => nmX2
  | 3, _ => nmX3
  | 4, _ => nmX4
  | 5, _ => nmX5
  | 6, _ => nmX6
  | 7, _ => nmX7
  | 8, _ => nmX8
  | k + 9, h => absurd h (by omega)
theorem av_tyok : ∀ ci, ci < 9 → ∀ k, k < av_N ci → parseFieldDescriptor ((av_T ci) k).2.2.1 = some (av_ty ci k) := fun ci h => match ci, h with
  | 0, _ => tyX0_ok
  | 1, _ => tyX1_ok
  | 2, _ => tyX2_ok
  | 3, _ => tyX3_ok
  | 4, _ => tyX4_ok
  | 5, _ => tyX5_ok
  | 6, _ => tyX6_ok
  | 7, _ => tyX7_ok
  | 8, _ => tyX8_ok
  | k + 9, h => absurd h (by omega)
