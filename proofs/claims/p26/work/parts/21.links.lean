/-! THE TABLE HOLDS: links -/
def av_FT0_0 : List (Nat × Nat × Nat × Nat) := [(0, 9, 0, 0), (0, 15, 0, 1), (0, 18, 0, 2), (0, 22, 0, 3), (0, 25, 0, 4), (0, 28, 0, 5), (0, 31, 0, 6), (0, 34, 0, 7), (0, 37, 0, 8), (0, 40, 0, 9), (0, 43, 0, 10), (0, 46, 0, 11), (0, 49, 0, 13), (0, 53, 0, 14), (0, 56, 0, 15), (0, 59, 0, 12), (1, 15, 1, 0), (1, 21, 1, 1), (1, 34, 1, 2), (1, 37, 1, 3), (2, 9, 2, 1), (2, 15, 2, 2), (2, 19, 2, 0), (3, 11, 3, 4), (3, 15, 3, 5), (3, 19, 3, 6), (3, 22, 3, 7), (3, 25, 3, 8), (3, 28, 3, 9), (3, 32, 3, 10), (3, 40, 3, 0), (3, 49, 3, 1), (3, 53, 3, 2), (3, 56, 3, 3), (4, 9, 4, 1), (4, 15, 4, 0), (5, 11, 5, 0), (5, 19, 5, 1), (5, 22, 5, 2), (5, 25, 5, 3)]
set_option maxRecDepth 100000 in
set_option maxHeartbeats 2000000 in
theorem av_FT0_0_ok : ∀ e ∈ av_FT0_0, Cond.fieldLink (av_cn e.1) e.2.1 (av_T e.2.2.1 e.2.2.2).1 (av_T e.2.2.1 e.2.2.2).2.1 (av_T e.2.2.1 e.2.2.2).2.2.1 ∈ lw_tbl := List.forall_mem_cons.mpr ⟨av_m1 (i := 189) rfl, List.forall_mem_cons.mpr ⟨av_m1 (i := 190) rfl, List.forall_mem_cons.mpr ⟨av_m1 (i := 191) rfl, List.forall_mem_cons.mpr ⟨av_m1 (i := 192) rfl, List.forall_mem_cons.mpr ⟨av_m1 (i := 193) rfl, List.forall_mem_cons.mpr ⟨av_m1 (i := 194) rfl, List.forall_mem_cons.mpr ⟨av_m1 (i := 196) rfl, List.forall_mem_cons.mpr ⟨av_m1 (i := 198) rfl, List.forall_mem_cons.mpr ⟨av_m1 (i := 200) rfl, List.forall_mem_cons.mpr ⟨av_m1 (i := 201) rfl, List.forall_mem_cons.mpr ⟨av_m1 (i := 202) rfl, List.forall_mem_cons.mpr ⟨av_m1 (i := 203) rfl, List.forall_mem_cons.mpr ⟨av_m1 (i := 207) rfl, List.forall_mem_cons.mpr ⟨av_m1 (i := 209) rfl, List.forall_mem_cons.mpr ⟨av_m1 (i := 211) rfl, List.forall_mem_cons.mpr ⟨av_m1 (i := 204) rfl, List.forall_mem_cons.mpr ⟨av_m1 (i := 159) rfl, List.forall_mem_cons.mpr ⟨av_m1 (i := 162) rfl, List.forall_mem_cons.mpr ⟨av_m1 (i := 168) rfl, List.forall_mem_cons.mpr ⟨av_m1 (i := 170) rfl, List.forall_mem_cons.mpr ⟨av_m1 (i := 104) rfl, List.forall_mem_cons.mpr ⟨av_m1 (i := 105) rfl, List.forall_mem_cons.mpr ⟨av_m1 (i := 103) rfl, List.forall_mem_cons.mpr ⟨av_m2 (i := 12) rfl, List.forall_mem_cons.mpr ⟨av_m2 (i := 13) rfl, List.forall_mem_cons.mpr ⟨av_m2 (i := 14) rfl, List.forall_mem_cons.mpr ⟨av_m2 (i := 15) rfl, List.forall_mem_cons.mpr ⟨av_m2 (i := 16) rfl, List.forall_mem_cons.mpr ⟨av_m2 (i := 18) rfl, List.forall_mem_cons.mpr ⟨av_m2 (i := 19) rfl, List.forall_mem_cons.mpr ⟨av_m2 (i := 7) rfl, List.forall_mem_cons.mpr ⟨av_m2 (i := 8) rfl, List.forall_mem_cons.mpr ⟨av_m2 (i := 10) rfl, List.forall_mem_cons.mpr ⟨av_m2 (i := 11) rfl, List.forall_mem_cons.mpr ⟨av_m1 (i := 120) rfl, List.forall_mem_cons.mpr ⟨av_m1 (i := 119) rfl, List.forall_mem_cons.mpr ⟨av_m1 (i := 69) rfl, List.forall_mem_cons.mpr ⟨av_m1 (i := 71) rfl, List.forall_mem_cons.mpr ⟨av_m1 (i := 74) rfl, List.forall_mem_cons.mpr ⟨av_m1 (i := 75) rfl, fun _ h => absurd h List.not_mem_nil⟩⟩⟩⟩⟩⟩⟩⟩⟩⟩⟩⟩⟩⟩⟩⟩⟩⟩⟩⟩⟩⟩⟩⟩⟩⟩⟩⟩⟩⟩⟩⟩⟩⟩⟩⟩⟩⟩⟩⟩
def av_FT0_1 : List (Nat × Nat × Nat × Nat) := [(5, 29, 5, 4), (5, 32, 5, 5), (6, 11, 6, 0), (6, 15, 6, 1), (6, 19, 6, 2), (6, 22, 6, 3), (6, 25, 6, 4), (6, 28, 6, 5), (6, 31, 6, 6), (7, 10, 7, 0), (7, 19, 7, 1), (7, 23, 7, 2), (7, 32, 7, 3), (7, 39, 7, 4), (7, 48, 7, 5), (7, 57, 7, 6), (7, 61, 7, 7), (7, 65, 7, 8), (8, 7, 8, 0), (8, 13, 8, 1), (8, 16, 8, 2), (8, 19, 8, 3), (8, 22, 8, 4), (8, 25, 8, 5), (8, 28, 8, 6), (8, 31, 8, 7), (8, 34, 8, 8), (8, 37, 8, 9), (8, 40, 8, 10), (8, 43, 8, 11), (8, 46, 8, 12), (8, 49, 8, 13), (8, 52, 8, 14), (8, 55, 8, 15), (8, 58, 8, 16), (8, 62, 8, 18), (8, 66, 8, 26), (8, 69, 8, 30), (8, 72, 8, 31), (8, 75, 8, 32)]
set_option maxRecDepth 100000 in
set_option maxHeartbeats 2000000 in
theorem av_FT0_1_ok : ∀ e ∈ av_FT0_1, Cond.fieldLink (av_cn e.1) e.2.1 (av_T e.2.2.1 e.2.2.2).1 (av_T e.2.2.1 e.2.2.2).2.1 (av_T e.2.2.1 e.2.2.2).2.2.1 ∈ lw_tbl := List.forall_mem_cons.mpr ⟨av_m1 (i := 77) rfl, List.forall_mem_cons.mpr ⟨av_m1 (i := 80) rfl, List.forall_mem_cons.mpr ⟨av_m1 (i := 32) rfl, List.forall_mem_cons.mpr ⟨av_m1 (i := 33) rfl, List.forall_mem_cons.mpr ⟨av_m1 (i := 35) rfl, List.forall_mem_cons.mpr ⟨av_m1 (i := 36) rfl, List.forall_mem_cons.mpr ⟨av_m1 (i := 37) rfl, List.forall_mem_cons.mpr ⟨av_m1 (i := 38) rfl, List.forall_mem_cons.mpr ⟨av_m1 (i := 39) rfl, List.forall_mem_cons.mpr ⟨av_m2 (i := 45) rfl, List.forall_mem_cons.mpr ⟨av_m2 (i := 46) rfl, List.forall_mem_cons.mpr ⟨av_m2 (i := 47) rfl, List.forall_mem_cons.mpr ⟨av_m2 (i := 48) rfl, List.forall_mem_cons.mpr ⟨av_m2 (i := 49) rfl, List.forall_mem_cons.mpr ⟨av_m2 (i := 50) rfl, List.forall_mem_cons.mpr ⟨av_m2 (i := 51) rfl, List.forall_mem_cons.mpr ⟨av_m2 (i := 52) rfl, List.forall_mem_cons.mpr ⟨av_m2 (i := 53) rfl, List.forall_mem_cons.mpr ⟨av_m4 (i := 194) rfl, List.forall_mem_cons.mpr ⟨av_m4 (i := 195) rfl, List.forall_mem_cons.mpr ⟨av_m4 (i := 196) rfl, List.forall_mem_cons.mpr ⟨av_m4 (i := 197) rfl, List.forall_mem_cons.mpr ⟨av_m4 (i := 198) rfl, List.forall_mem_cons.mpr ⟨av_m4 (i := 199) rfl, List.forall_mem_cons.mpr ⟨av_m4 (i := 200) rfl, List.forall_mem_cons.mpr ⟨av_m4 (i := 201) rfl, List.forall_mem_cons.mpr ⟨av_m4 (i := 202) rfl, List.forall_mem_cons.mpr ⟨av_m4 (i := 203) rfl, List.forall_mem_cons.mpr ⟨av_m4 (i := 204) rfl, List.forall_mem_cons.mpr ⟨av_m4 (i := 205) rfl, List.forall_mem_cons.mpr ⟨av_m4 (i := 206) rfl, List.forall_mem_cons.mpr ⟨av_m4 (i := 207) rfl, List.forall_mem_cons.mpr ⟨av_m4 (i := 208) rfl, List.forall_mem_cons.mpr ⟨av_m4 (i := 209) rfl, List.forall_mem_cons.mpr ⟨av_m4 (i := 210) rfl, List.forall_mem_cons.mpr ⟨av_m4 (i := 212) rfl, List.forall_mem_cons.mpr ⟨av_m4 (i := 220) rfl, List.forall_mem_cons.mpr ⟨av_m4 (i := 224) rfl, List.forall_mem_cons.mpr ⟨av_m4 (i := 225) rfl, List.forall_mem_cons.mpr ⟨av_m4 (i := 226) rfl, fun _ h => absurd h List.not_mem_nil⟩⟩⟩⟩⟩⟩⟩⟩⟩⟩⟩⟩⟩⟩⟩⟩⟩⟩⟩⟩⟩⟩⟩⟩⟩⟩⟩⟩⟩⟩⟩⟩⟩⟩⟩⟩⟩⟩⟩⟩
def av_FT0_2 : List (Nat × Nat × Nat × Nat) := [(8, 78, 8, 33), (8, 81, 8, 34), (8, 84, 8, 35), (8, 87, 8, 36), (8, 90, 8, 37), (8, 94, 8, 38), (8, 97, 8, 39), (8, 100, 8, 40), (8, 103, 8, 41), (8, 106, 8, 42), (8, 109, 8, 43), (8, 112, 8, 44), (8, 115, 8, 45), (8, 118, 8, 46), (8, 121, 8, 47), (8, 124, 8, 48), (8, 127, 8, 49), (8, 130, 8, 54), (8, 133, 8, 55), (8, 136, 8, 56), (8, 139, 8, 57), (8, 142, 8, 58), (8, 145, 8, 59), (8, 148, 8, 17), (8, 151, 8, 20), (8, 154, 8, 19), (8, 161, 8, 21), (8, 166, 8, 24), (8, 170, 8, 23), (8, 173, 8, 22), (8, 183, 8, 25), (8, 351, 8, 27), (8, 354, 8, 28), (8, 357, 8, 29), (8, 381, 8, 50), (8, 384, 8, 53), (8, 387, 8, 51), (8, 390, 8, 52), (8, 461, 8, 60), (8, 464, 8, 61)]
set_option maxRecDepth 100000 in
set_option maxHeartbeats 2000000 in
theorem av_FT0_2_ok : ∀ e ∈ av_FT0_2, Cond.fieldLink (av_cn e.1) e.2.1 (av_T e.2.2.1 e.2.2.2).1 (av_T e.2.2.1 e.2.2.2).2.1 (av_T e.2.2.1 e.2.2.2).2.2.1 ∈ lw_tbl := List.forall_mem_cons.mpr ⟨av_m4 (i := 227) rfl, List.forall_mem_cons.mpr ⟨av_m4 (i := 228) rfl, List.forall_mem_cons.mpr ⟨av_m4 (i := 229) rfl, List.forall_mem_cons.mpr ⟨av_m4 (i := 230) rfl, List.forall_mem_cons.mpr ⟨av_m4 (i := 231) rfl, List.forall_mem_cons.mpr ⟨av_m4 (i := 232) rfl, List.forall_mem_cons.mpr ⟨av_m4 (i := 233) rfl, List.forall_mem_cons.mpr ⟨av_m4 (i := 234) rfl, List.forall_mem_cons.mpr ⟨av_m4 (i := 235) rfl, List.forall_mem_cons.mpr ⟨av_m4 (i := 236) rfl, List.forall_mem_cons.mpr ⟨av_m4 (i := 237) rfl, List.forall_mem_cons.mpr ⟨av_m4 (i := 238) rfl, List.forall_mem_cons.mpr ⟨av_m4 (i := 239) rfl, List.forall_mem_cons.mpr ⟨av_m5 (i := 0) rfl, List.forall_mem_cons.mpr ⟨av_m5 (i := 1) rfl, List.forall_mem_cons.mpr ⟨av_m5 (i := 2) rfl, List.forall_mem_cons.mpr ⟨av_m5 (i := 3) rfl, List.forall_mem_cons.mpr ⟨av_m5 (i := 8) rfl, List.forall_mem_cons.mpr ⟨av_m5 (i := 9) rfl, List.forall_mem_cons.mpr ⟨av_m5 (i := 10) rfl, List.forall_mem_cons.mpr ⟨av_m5 (i := 11) rfl, List.forall_mem_cons.mpr ⟨av_m5 (i := 12) rfl, List.forall_mem_cons.mpr ⟨av_m5 (i := 13) rfl, List.forall_mem_cons.mpr ⟨av_m4 (i := 211) rfl, List.forall_mem_cons.mpr ⟨av_m4 (i := 214) rfl, List.forall_mem_cons.mpr ⟨av_m4 (i := 213) rfl, List.forall_mem_cons.mpr ⟨av_m4 (i := 215) rfl, List.forall_mem_cons.mpr ⟨av_m4 (i := 218) rfl, List.forall_mem_cons.mpr ⟨av_m4 (i := 217) rfl, List.forall_mem_cons.mpr ⟨av_m4 (i := 216) rfl, List.forall_mem_cons.mpr ⟨av_m4 (i := 219) rfl, List.forall_mem_cons.mpr ⟨av_m4 (i := 221) rfl, List.forall_mem_cons.mpr ⟨av_m4 (i := 222) rfl, List.forall_mem_cons.mpr ⟨av_m4 (i := 223) rfl, List.forall_mem_cons.mpr ⟨av_m5 (i := 4) rfl, List.forall_mem_cons.mpr ⟨av_m5 (i := 7) rfl, List.forall_mem_cons.mpr ⟨av_m5 (i := 5) rfl, List.forall_mem_cons.mpr ⟨av_m5 (i := 6) rfl, List.forall_mem_cons.mpr ⟨av_m5 (i := 14) rfl, List.forall_mem_cons.mpr ⟨av_m5 (i := 15) rfl, fun _ h => absurd h List.not_mem_nil⟩⟩⟩⟩⟩⟩⟩⟩⟩⟩⟩⟩⟩⟩⟩⟩⟩⟩⟩⟩⟩⟩⟩⟩⟩⟩⟩⟩⟩⟩⟩⟩⟩⟩⟩⟩⟩⟩⟩⟩
def av_FT0_3 : List (Nat × Nat × Nat × Nat) := [(8, 482, 8, 62)]
set_option maxRecDepth 100000 in
set_option maxHeartbeats 2000000 in
theorem av_FT0_3_ok : ∀ e ∈ av_FT0_3, Cond.fieldLink (av_cn e.1) e.2.1 (av_T e.2.2.1 e.2.2.2).1 (av_T e.2.2.1 e.2.2.2).2.1 (av_T e.2.2.1 e.2.2.2).2.2.1 ∈ lw_tbl := List.forall_mem_cons.mpr ⟨av_m5 (i := 16) rfl, fun _ h => absurd h List.not_mem_nil⟩
def av_FT0 : List (Nat × Nat × Nat × Nat) := av_FT0_0 ++ av_FT0_1 ++ av_FT0_2 ++ av_FT0_3
theorem av_FT0_ok : ∀ e ∈ av_FT0, Cond.fieldLink (av_cn e.1) e.2.1 (av_T e.2.2.1 e.2.2.2).1 (av_T e.2.2.1 e.2.2.2).2.1 (av_T e.2.2.1 e.2.2.2).2.2.1 ∈ lw_tbl := List.forall_mem_append.mpr ⟨List.forall_mem_append.mpr ⟨List.forall_mem_append.mpr ⟨av_FT0_0_ok, av_FT0_1_ok⟩, av_FT0_2_ok⟩, av_FT0_3_ok⟩
def av_FT1_0 : List (Nat × Nat × Nat × Nat) := [(0, 69, 1, 1), (0, 103, 1, 0), (2, 23, 1, 1), (2, 34, 1, 0), (2, 54, 6, 6), (3, 82, 1, 3), (3, 96, 5, 1), (3, 116, 1, 1), (3, 122, 0, 12), (3, 132, 0, 15), (3, 158, 5, 4), (4, 37, 6, 6), (5, 57, 1, 1), (7, 68, 6, 1), (7, 79, 5, 3), (7, 100, 5, 0), (7, 107, 1, 1), (7, 110, 5, 4), (7, 116, 4, 1), (7, 124, 5, 5), (7, 130, 6, 6), (7, 143, 1, 2), (7, 146, 1, 3), (7, 156, 5, 1), (7, 164, 3, 1), (7, 174, 0, 13), (7, 177, 0, 14), (7, 180, 0, 15), (7, 190, 0, 5), (7, 193, 0, 6), (7, 196, 0, 7), (7, 210, 3, 8), (7, 213, 0, 12)]
set_option maxRecDepth 100000 in
set_option maxHeartbeats 2000000 in
theorem av_FT1_0_ok : ∀ e ∈ av_FT1_0, Cond.fieldLinkNest (av_cn e.1) e.2.1 (av_T e.2.2.1 e.2.2.2).1 (av_T e.2.2.1 e.2.2.2).2.1 (av_T e.2.2.1 e.2.2.2).2.2.1 "CrossingWords" ∈ lw_tbl := List.forall_mem_cons.mpr ⟨av_m1 (i := 164) rfl, List.forall_mem_cons.mpr ⟨av_m1 (i := 161) rfl, List.forall_mem_cons.mpr ⟨av_m1 (i := 163) rfl, List.forall_mem_cons.mpr ⟨av_m1 (i := 160) rfl, List.forall_mem_cons.mpr ⟨av_m1 (i := 41) rfl, List.forall_mem_cons.mpr ⟨av_m1 (i := 171) rfl, List.forall_mem_cons.mpr ⟨av_m1 (i := 72) rfl, List.forall_mem_cons.mpr ⟨av_m1 (i := 167) rfl, List.forall_mem_cons.mpr ⟨av_m1 (i := 205) rfl, List.forall_mem_cons.mpr ⟨av_m1 (i := 212) rfl, List.forall_mem_cons.mpr ⟨av_m1 (i := 79) rfl, List.forall_mem_cons.mpr ⟨av_m1 (i := 40) rfl, List.forall_mem_cons.mpr ⟨av_m1 (i := 166) rfl, List.forall_mem_cons.mpr ⟨av_m1 (i := 34) rfl, List.forall_mem_cons.mpr ⟨av_m1 (i := 76) rfl, List.forall_mem_cons.mpr ⟨av_m1 (i := 70) rfl, List.forall_mem_cons.mpr ⟨av_m1 (i := 165) rfl, List.forall_mem_cons.mpr ⟨av_m1 (i := 78) rfl, List.forall_mem_cons.mpr ⟨av_m1 (i := 121) rfl, List.forall_mem_cons.mpr ⟨av_m1 (i := 81) rfl, List.forall_mem_cons.mpr ⟨av_m1 (i := 42) rfl, List.forall_mem_cons.mpr ⟨av_m1 (i := 169) rfl, List.forall_mem_cons.mpr ⟨av_m1 (i := 172) rfl, List.forall_mem_cons.mpr ⟨av_m1 (i := 73) rfl, List.forall_mem_cons.mpr ⟨av_m2 (i := 9) rfl, List.forall_mem_cons.mpr ⟨av_m1 (i := 208) rfl, List.forall_mem_cons.mpr ⟨av_m1 (i := 210) rfl, List.forall_mem_cons.mpr ⟨av_m1 (i := 213) rfl, List.forall_mem_cons.mpr ⟨av_m1 (i := 195) rfl, List.forall_mem_cons.mpr ⟨av_m1 (i := 197) rfl, List.forall_mem_cons.mpr ⟨av_m1 (i := 199) rfl, List.forall_mem_cons.mpr ⟨av_m2 (i := 17) rfl, List.forall_mem_cons.mpr ⟨av_m1 (i := 206) rfl, fun _ h => absurd h List.not_mem_nil⟩⟩⟩⟩⟩⟩⟩⟩⟩⟩⟩⟩⟩⟩⟩⟩⟩⟩⟩⟩⟩⟩⟩⟩⟩⟩⟩⟩⟩⟩⟩⟩⟩
def av_FT1 : List (Nat × Nat × Nat × Nat) := av_FT1_0
theorem av_FT1_ok : ∀ e ∈ av_FT1, Cond.fieldLinkNest (av_cn e.1) e.2.1 (av_T e.2.2.1 e.2.2.2).1 (av_T e.2.2.1 e.2.2.2).2.1 (av_T e.2.2.1 e.2.2.2).2.2.1 "CrossingWords" ∈ lw_tbl := av_FT1_0_ok
def av_CT_0 : List (Nat × Nat × Nat) := [(1, 16, 1), (2, 24, 1), (3, 35, 1), (3, 44, 0), (7, 7, 6), (7, 16, 5), (7, 27, 2), (7, 36, 4), (7, 43, 3), (7, 52, 1), (9, 7, 7), (9, 10, 8)]
set_option maxRecDepth 100000 in
set_option maxHeartbeats 2000000 in
theorem av_CT_0_ok : ∀ e ∈ av_CT_0, Cond.classLink (av_cn e.1) e.2.1 (av_cn e.2.2) ∈ lw_tbl := List.forall_mem_cons.mpr ⟨av_m4 (i := 151) rfl, List.forall_mem_cons.mpr ⟨av_m3 (i := 9) rfl, List.forall_mem_cons.mpr ⟨av_m1 (i := 133) rfl, List.forall_mem_cons.mpr ⟨av_m1 (i := 183) rfl, List.forall_mem_cons.mpr ⟨av_m1 (i := 26) rfl, List.forall_mem_cons.mpr ⟨av_m1 (i := 59) rfl, List.forall_mem_cons.mpr ⟨av_m1 (i := 97) rfl, List.forall_mem_cons.mpr ⟨av_m1 (i := 113) rfl, List.forall_mem_cons.mpr ⟨av_m1 (i := 127) rfl, List.forall_mem_cons.mpr ⟨av_m2 (i := 43) rfl, List.forall_mem_cons.mpr ⟨av_m1 (i := 18) rfl, List.forall_mem_cons.mpr ⟨av_m4 (i := 188) rfl, fun _ h => absurd h List.not_mem_nil⟩⟩⟩⟩⟩⟩⟩⟩⟩⟩⟩⟩
def av_CT : List (Nat × Nat × Nat) := av_CT_0
theorem av_CT_ok : ∀ e ∈ av_CT, Cond.classLink (av_cn e.1) e.2.1 (av_cn e.2.2) ∈ lw_tbl := av_CT_0_ok
def av_IT_0 : List (Nat × Nat × Nat) := [(0, 1000, 3), (0, 1001, 106), (0, 1002, 122), (1, 1000, 3), (1, 1001, 25), (1, 1002, 31), (1, 1004, 47), (2, 1000, 3), (2, 1002, 28), (2, 1003, 35), (3, 1000, 3), (3, 1001, 140), (3, 1002, 135), (4, 1000, 3), (5, 1000, 3), (5, 1003, 39), (6, 1000, 3), (6, 1005, 45), (6, 1006, 50), (7, 1000, 1), (8, 1000, 1), (10, 1002, 304), (10, 1003, 150), (10, 1004, 316)]
set_option maxRecDepth 100000 in
set_option maxHeartbeats 2000000 in
theorem av_IT_0_ok : ∀ e ∈ av_IT_0, av_lkP e.1 e.2.1 e.2.2 := List.forall_mem_cons.mpr ⟨av_m1 (i := 188) rfl, List.forall_mem_cons.mpr ⟨av_m3 (i := 129) rfl, List.forall_mem_cons.mpr ⟨av_m3 (i := 194) rfl, List.forall_mem_cons.mpr ⟨av_m1 (i := 138) rfl, List.forall_mem_cons.mpr ⟨av_m1 (i := 155) rfl, List.forall_mem_cons.mpr ⟨av_m1 (i := 158) rfl, List.forall_mem_cons.mpr ⟨av_m4 (i := 149) rfl, List.forall_mem_cons.mpr ⟨av_m1 (i := 102) rfl, List.forall_mem_cons.mpr ⟨av_m2 (i := 105) rfl, List.forall_mem_cons.mpr ⟨av_m2 (i := 106) rfl, List.forall_mem_cons.mpr ⟨av_m1 (i := 132) rfl, List.forall_mem_cons.mpr ⟨av_m4 (i := 26) rfl, List.forall_mem_cons.mpr ⟨av_m4 (i := 25) rfl, List.forall_mem_cons.mpr ⟨av_m1 (i := 118) rfl, List.forall_mem_cons.mpr ⟨av_m1 (i := 64) rfl, List.forall_mem_cons.mpr ⟨av_m3 (i := 70) rfl, List.forall_mem_cons.mpr ⟨av_m1 (i := 31) rfl, List.forall_mem_cons.mpr ⟨av_m2 (i := 134) rfl, List.forall_mem_cons.mpr ⟨av_m2 (i := 144) rfl, List.forall_mem_cons.mpr ⟨av_m1 (i := 23) rfl, List.forall_mem_cons.mpr ⟨av_m4 (i := 193) rfl, List.forall_mem_cons.mpr ⟨av_m1 (i := 149) rfl, List.forall_mem_cons.mpr ⟨av_m1 (i := 152) rfl, List.forall_mem_cons.mpr ⟨av_m1 (i := 142) rfl, fun _ h => absurd h List.not_mem_nil⟩⟩⟩⟩⟩⟩⟩⟩⟩⟩⟩⟩⟩⟩⟩⟩⟩⟩⟩⟩⟩⟩⟩⟩
def av_IT : List (Nat × Nat × Nat) := av_IT_0
theorem av_IT_ok : ∀ e ∈ av_IT, av_lkP e.1 e.2.1 e.2.2 := av_IT_0_ok
def av_KT_0 : List (Nat × Nat × Int) := [(8, 182, (1000000)), (11, 265, (1431655765)), (11, 266, (858993459)), (11, 267, (252645135))]
set_option maxRecDepth 100000 in
set_option maxHeartbeats 2000000 in
theorem av_KT_0_ok : ∀ e ∈ av_KT_0, Cond.constant (av_cn e.1) e.2.1 (Int32.ofInt e.2.2) ∈ lw_tbl := List.forall_mem_cons.mpr ⟨av_m5 (i := 169) rfl, List.forall_mem_cons.mpr ⟨av_m4 (i := 89) rfl, List.forall_mem_cons.mpr ⟨av_m4 (i := 90) rfl, List.forall_mem_cons.mpr ⟨av_m4 (i := 91) rfl, fun _ h => absurd h List.not_mem_nil⟩⟩⟩⟩
def av_KT : List (Nat × Nat × Int) := av_KT_0
theorem av_KT_ok : ∀ e ∈ av_KT, Cond.constant (av_cn e.1) e.2.1 (Int32.ofInt e.2.2) ∈ lw_tbl := av_KT_0_ok
def av_JT_0 : List (Nat × Nat × Int) := [(8, 164, (-1)), (8, 180, (27)), (8, 197, (3)), (8, 199, (8863997)), (8, 201, (271277)), (8, 203, (2968)), (8, 205, (326369)), (8, 207, (1905383)), (8, 209, (8094240)), (8, 211, (1253)), (8, 213, (18379)), (8, 215, (393)), (8, 217, (40187)), (8, 219, (82516)), (8, 221, (378004)), (8, 223, (326396)), (8, 225, (459761)), (8, 227, (7219835)), (8, 236, (555)), (8, 241, (47)), (8, 251, (664272)), (8, 253, (357970)), (8, 255, (247664)), (8, 276, (168727)), (8, 278, (3913421)), (8, 280, (2045)), (8, 302, (378020)), (8, 304, (70340)), (8, 306, (1065)), (8, 315, (131360)), (8, 317, (1250362)), (8, 319, (-9)), (8, 321, (6409157)), (8, 323, (7496615453)), (8, 325, (10354323)), (8, 327, (129532)), (8, 329, (3379448)), (8, 331, (237458)), (8, 333, (286880)), (8, 335, (361379))]
set_option maxRecDepth 100000 in
set_option maxHeartbeats 2000000 in
theorem av_JT_0_ok : ∀ e ∈ av_JT_0, Cond.constantLong (av_cn e.1) e.2.1 (Int64.ofInt e.2.2) ∈ lw_tbl := List.forall_mem_cons.mpr ⟨av_m5 (i := 164) rfl, List.forall_mem_cons.mpr ⟨av_m5 (i := 168) rfl, List.forall_mem_cons.mpr ⟨av_m5 (i := 197) rfl, List.forall_mem_cons.mpr ⟨av_m5 (i := 214) rfl, List.forall_mem_cons.mpr ⟨av_m5 (i := 215) rfl, List.forall_mem_cons.mpr ⟨av_m5 (i := 216) rfl, List.forall_mem_cons.mpr ⟨av_m5 (i := 217) rfl, List.forall_mem_cons.mpr ⟨av_m5 (i := 218) rfl, List.forall_mem_cons.mpr ⟨av_m5 (i := 186) rfl, List.forall_mem_cons.mpr ⟨av_m5 (i := 187) rfl, List.forall_mem_cons.mpr ⟨av_m5 (i := 188) rfl, List.forall_mem_cons.mpr ⟨av_m5 (i := 189) rfl, List.forall_mem_cons.mpr ⟨av_m5 (i := 190) rfl, List.forall_mem_cons.mpr ⟨av_m5 (i := 191) rfl, List.forall_mem_cons.mpr ⟨av_m5 (i := 192) rfl, List.forall_mem_cons.mpr ⟨av_m5 (i := 238) rfl, List.forall_mem_cons.mpr ⟨av_m5 (i := 239) rfl, List.forall_mem_cons.mpr ⟨av_m6 (i := 0) rfl, List.forall_mem_cons.mpr ⟨av_m6 (i := 10) rfl, List.forall_mem_cons.mpr ⟨av_m6 (i := 1) rfl, List.forall_mem_cons.mpr ⟨av_m6 (i := 11) rfl, List.forall_mem_cons.mpr ⟨av_m6 (i := 12) rfl, List.forall_mem_cons.mpr ⟨av_m6 (i := 13) rfl, List.forall_mem_cons.mpr ⟨av_m5 (i := 223) rfl, List.forall_mem_cons.mpr ⟨av_m5 (i := 228) rfl, List.forall_mem_cons.mpr ⟨av_m5 (i := 229) rfl, List.forall_mem_cons.mpr ⟨av_m6 (i := 47) rfl, List.forall_mem_cons.mpr ⟨av_m6 (i := 48) rfl, List.forall_mem_cons.mpr ⟨av_m6 (i := 38) rfl, List.forall_mem_cons.mpr ⟨av_m6 (i := 49) rfl, List.forall_mem_cons.mpr ⟨av_m6 (i := 50) rfl, List.forall_mem_cons.mpr ⟨av_m6 (i := 51) rfl, List.forall_mem_cons.mpr ⟨av_m6 (i := 52) rfl, List.forall_mem_cons.mpr ⟨av_m6 (i := 53) rfl, List.forall_mem_cons.mpr ⟨av_m6 (i := 54) rfl, List.forall_mem_cons.mpr ⟨av_m6 (i := 55) rfl, List.forall_mem_cons.mpr ⟨av_m6 (i := 56) rfl, List.forall_mem_cons.mpr ⟨av_m6 (i := 57) rfl, List.forall_mem_cons.mpr ⟨av_m6 (i := 58) rfl, List.forall_mem_cons.mpr ⟨av_m6 (i := 59) rfl, fun _ h => absurd h List.not_mem_nil⟩⟩⟩⟩⟩⟩⟩⟩⟩⟩⟩⟩⟩⟩⟩⟩⟩⟩⟩⟩⟩⟩⟩⟩⟩⟩⟩⟩⟩⟩⟩⟩⟩⟩⟩⟩⟩⟩⟩⟩
def av_JT_1 : List (Nat × Nat × Int) := [(8, 337, (798894590))]
set_option maxRecDepth 100000 in
set_option maxHeartbeats 2000000 in
theorem av_JT_1_ok : ∀ e ∈ av_JT_1, Cond.constantLong (av_cn e.1) e.2.1 (Int64.ofInt e.2.2) ∈ lw_tbl := List.forall_mem_cons.mpr ⟨av_m6 (i := 60) rfl, fun _ h => absurd h List.not_mem_nil⟩
def av_JT : List (Nat × Nat × Int) := av_JT_0 ++ av_JT_1
theorem av_JT_ok : ∀ e ∈ av_JT, Cond.constantLong (av_cn e.1) e.2.1 (Int64.ofInt e.2.2) ∈ lw_tbl := List.forall_mem_append.mpr ⟨av_JT_0_ok, av_JT_1_ok⟩
def av_ML0_0 : List (Nat × Nat × Nat) := [(0, 63, 220), (0, 74, 29), (0, 78, 30), (0, 84, 4), (0, 88, 7), (0, 91, 9), (0, 94, 11), (0, 97, 12), (0, 100, 14), (0, 111, 5), (0, 115, 6), (0, 118, 8), (0, 125, 10), (0, 129, 13), (0, 132, 16), (0, 136, 28), (0, 139, 31), (0, 142, 3), (0, 146, 20), (0, 150, 22), (0, 153, 25), (0, 157, 26), (0, 160, 15), (1, 9, 222), (1, 40, 28), (1, 44, 29), (1, 52, 27), (1, 55, 221), (2, 41, 84), (2, 47, 85), (2, 50, 36), (2, 57, 27), (2, 60, 221), (2, 68, 87), (2, 74, 37), (2, 77, 38), (2, 81, 40), (2, 86, 88), (2, 90, 41), (2, 93, 43)]
set_option maxRecDepth 100000 in
set_option maxHeartbeats 2000000 in
theorem av_ML0_0_ok : ∀ e ∈ av_ML0_0, ∃ r, av_TT e.2.2 = some r ∧ Cond.methodLink (av_cn e.1) e.2.1 r.2.1 ∈ lw_tbl := List.forall_mem_cons.mpr ⟨⟨ms_220, rfl, av_m3 (i := 118) rfl⟩, List.forall_mem_cons.mpr ⟨⟨ms_29, rfl, av_m3 (i := 119) rfl⟩, List.forall_mem_cons.mpr ⟨⟨ms_30, rfl, av_m3 (i := 120) rfl⟩, List.forall_mem_cons.mpr ⟨⟨ms_4, rfl, av_m3 (i := 180) rfl⟩, List.forall_mem_cons.mpr ⟨⟨ms_7, rfl, av_m3 (i := 181) rfl⟩, List.forall_mem_cons.mpr ⟨⟨ms_9, rfl, av_m3 (i := 190) rfl⟩, List.forall_mem_cons.mpr ⟨⟨ms_11, rfl, av_m3 (i := 199) rfl⟩, List.forall_mem_cons.mpr ⟨⟨ms_12, rfl, av_m3 (i := 203) rfl⟩, List.forall_mem_cons.mpr ⟨⟨ms_14, rfl, av_m3 (i := 215) rfl⟩, List.forall_mem_cons.mpr ⟨⟨ms_5, rfl, av_m3 (i := 130) rfl⟩, List.forall_mem_cons.mpr ⟨⟨ms_6, rfl, av_m3 (i := 185) rfl⟩, List.forall_mem_cons.mpr ⟨⟨ms_8, rfl, av_m3 (i := 186) rfl⟩, List.forall_mem_cons.mpr ⟨⟨ms_10, rfl, av_m3 (i := 195) rfl⟩, List.forall_mem_cons.mpr ⟨⟨ms_13, rfl, av_m3 (i := 207) rfl⟩, List.forall_mem_cons.mpr ⟨⟨ms_16, rfl, av_m3 (i := 211) rfl⟩, List.forall_mem_cons.mpr ⟨⟨ms_28, rfl, av_m3 (i := 239) rfl⟩, List.forall_mem_cons.mpr ⟨⟨ms_31, rfl, av_m3 (i := 227) rfl⟩, List.forall_mem_cons.mpr ⟨⟨ms_3, rfl, av_m4 (i := 47) rfl⟩, List.forall_mem_cons.mpr ⟨⟨ms_20, rfl, av_m4 (i := 48) rfl⟩, List.forall_mem_cons.mpr ⟨⟨ms_22, rfl, av_m4 (i := 109) rfl⟩, List.forall_mem_cons.mpr ⟨⟨ms_25, rfl, av_m4 (i := 124) rfl⟩, List.forall_mem_cons.mpr ⟨⟨ms_26, rfl, av_m4 (i := 129) rfl⟩, List.forall_mem_cons.mpr ⟨⟨ms_15, rfl, av_m4 (i := 128) rfl⟩, List.forall_mem_cons.mpr ⟨⟨ms_222, rfl, av_m1 (i := 139) rfl⟩, List.forall_mem_cons.mpr ⟨⟨ms_28, rfl, av_m3 (i := 101) rfl⟩, List.forall_mem_cons.mpr ⟨⟨ms_29, rfl, av_m3 (i := 124) rfl⟩, List.forall_mem_cons.mpr ⟨⟨ms_27, rfl, av_m4 (i := 152) rfl⟩, List.forall_mem_cons.mpr ⟨⟨ms_221, rfl, av_m4 (i := 166) rfl⟩, List.forall_mem_cons.mpr ⟨⟨ms_84, rfl, av_m2 (i := 107) rfl⟩, List.forall_mem_cons.mpr ⟨⟨ms_85, rfl, av_m2 (i := 111) rfl⟩, List.forall_mem_cons.mpr ⟨⟨ms_36, rfl, av_m2 (i := 115) rfl⟩, List.forall_mem_cons.mpr ⟨⟨ms_27, rfl, av_m3 (i := 10) rfl⟩, List.forall_mem_cons.mpr ⟨⟨ms_221, rfl, av_m2 (i := 119) rfl⟩, List.forall_mem_cons.mpr ⟨⟨ms_87, rfl, av_m2 (i := 126) rfl⟩, List.forall_mem_cons.mpr ⟨⟨ms_37, rfl, av_m2 (i := 184) rfl⟩, List.forall_mem_cons.mpr ⟨⟨ms_38, rfl, av_m2 (i := 189) rfl⟩, List.forall_mem_cons.mpr ⟨⟨ms_40, rfl, av_m2 (i := 202) rfl⟩, List.forall_mem_cons.mpr ⟨⟨ms_88, rfl, av_m2 (i := 217) rfl⟩, List.forall_mem_cons.mpr ⟨⟨ms_41, rfl, av_m2 (i := 223) rfl⟩, List.forall_mem_cons.mpr ⟨⟨ms_43, rfl, av_m2 (i := 227) rfl⟩, fun _ h => absurd h List.not_mem_nil⟩⟩⟩⟩⟩⟩⟩⟩⟩⟩⟩⟩⟩⟩⟩⟩⟩⟩⟩⟩⟩⟩⟩⟩⟩⟩⟩⟩⟩⟩⟩⟩⟩⟩⟩⟩⟩⟩⟩⟩
def av_ML0_1 : List (Nat × Nat × Nat) := [(2, 96, 90), (2, 99, 86), (2, 102, 91), (2, 106, 39), (2, 110, 82), (2, 113, 42), (2, 118, 92), (2, 129, 89), (2, 133, 44), (3, 37, 27), (3, 46, 0), (3, 59, 220), (3, 64, 1), (3, 68, 4), (3, 72, 6), (3, 76, 69), (3, 85, 51), (3, 89, 2), (3, 93, 70), (3, 100, 52), (3, 104, 53), (3, 108, 55), (3, 112, 54), (3, 119, 29), (3, 126, 221), (3, 129, 57), (3, 143, 59), (3, 147, 62), (3, 150, 3), (3, 154, 17), (3, 161, 75), (4, 19, 220), (4, 25, 84), (4, 31, 85), (4, 34, 66), (4, 43, 87), (4, 47, 67), (4, 54, 92), (4, 66, 90), (5, 45, 74)]
set_option maxRecDepth 100000 in
set_option maxHeartbeats 2000000 in
theorem av_ML0_1_ok : ∀ e ∈ av_ML0_1, ∃ r, av_TT e.2.2 = some r ∧ Cond.methodLink (av_cn e.1) e.2.1 r.2.1 ∈ lw_tbl := List.forall_mem_cons.mpr ⟨⟨ms_90, rfl, av_m3 (i := 5) rfl⟩, List.forall_mem_cons.mpr ⟨⟨ms_86, rfl, av_m2 (i := 188) rfl⟩, List.forall_mem_cons.mpr ⟨⟨ms_91, rfl, av_m2 (i := 193) rfl⟩, List.forall_mem_cons.mpr ⟨⟨ms_39, rfl, av_m2 (i := 197) rfl⟩, List.forall_mem_cons.mpr ⟨⟨ms_82, rfl, av_m2 (i := 201) rfl⟩, List.forall_mem_cons.mpr ⟨⟨ms_42, rfl, av_m2 (i := 206) rfl⟩, List.forall_mem_cons.mpr ⟨⟨ms_92, rfl, av_m2 (i := 211) rfl⟩, List.forall_mem_cons.mpr ⟨⟨ms_89, rfl, av_m2 (i := 233) rfl⟩, List.forall_mem_cons.mpr ⟨⟨ms_44, rfl, av_m2 (i := 237) rfl⟩, List.forall_mem_cons.mpr ⟨⟨ms_27, rfl, av_m1 (i := 135) rfl⟩, List.forall_mem_cons.mpr ⟨⟨ms_0, rfl, av_m1 (i := 185) rfl⟩, List.forall_mem_cons.mpr ⟨⟨ms_220, rfl, av_m3 (i := 31) rfl⟩, List.forall_mem_cons.mpr ⟨⟨ms_1, rfl, av_m3 (i := 114) rfl⟩, List.forall_mem_cons.mpr ⟨⟨ms_4, rfl, av_m3 (i := 125) rfl⟩, List.forall_mem_cons.mpr ⟨⟨ms_6, rfl, av_m3 (i := 134) rfl⟩, List.forall_mem_cons.mpr ⟨⟨ms_69, rfl, av_m3 (i := 154) rfl⟩, List.forall_mem_cons.mpr ⟨⟨ms_51, rfl, av_m3 (i := 155) rfl⟩, List.forall_mem_cons.mpr ⟨⟨ms_2, rfl, av_m3 (i := 176) rfl⟩, List.forall_mem_cons.mpr ⟨⟨ms_70, rfl, av_m3 (i := 159) rfl⟩, List.forall_mem_cons.mpr ⟨⟨ms_52, rfl, av_m3 (i := 160) rfl⟩, List.forall_mem_cons.mpr ⟨⟨ms_53, rfl, av_m3 (i := 164) rfl⟩, List.forall_mem_cons.mpr ⟨⟨ms_55, rfl, av_m3 (i := 173) rfl⟩, List.forall_mem_cons.mpr ⟨⟨ms_54, rfl, av_m3 (i := 168) rfl⟩, List.forall_mem_cons.mpr ⟨⟨ms_29, rfl, av_m3 (i := 172) rfl⟩, List.forall_mem_cons.mpr ⟨⟨ms_221, rfl, av_m4 (i := 20) rfl⟩, List.forall_mem_cons.mpr ⟨⟨ms_57, rfl, av_m4 (i := 21) rfl⟩, List.forall_mem_cons.mpr ⟨⟨ms_59, rfl, av_m4 (i := 35) rfl⟩, List.forall_mem_cons.mpr ⟨⟨ms_62, rfl, av_m4 (i := 68) rfl⟩, List.forall_mem_cons.mpr ⟨⟨ms_3, rfl, av_m4 (i := 72) rfl⟩, List.forall_mem_cons.mpr ⟨⟨ms_17, rfl, av_m4 (i := 73) rfl⟩, List.forall_mem_cons.mpr ⟨⟨ms_75, rfl, av_m4 (i := 96) rfl⟩, List.forall_mem_cons.mpr ⟨⟨ms_220, rfl, av_m3 (i := 42) rfl⟩, List.forall_mem_cons.mpr ⟨⟨ms_84, rfl, av_m3 (i := 43) rfl⟩, List.forall_mem_cons.mpr ⟨⟨ms_85, rfl, av_m3 (i := 44) rfl⟩, List.forall_mem_cons.mpr ⟨⟨ms_66, rfl, av_m3 (i := 45) rfl⟩, List.forall_mem_cons.mpr ⟨⟨ms_87, rfl, av_m3 (i := 50) rfl⟩, List.forall_mem_cons.mpr ⟨⟨ms_67, rfl, av_m3 (i := 51) rfl⟩, List.forall_mem_cons.mpr ⟨⟨ms_92, rfl, av_m3 (i := 58) rfl⟩, List.forall_mem_cons.mpr ⟨⟨ms_90, rfl, av_m3 (i := 63) rfl⟩, List.forall_mem_cons.mpr ⟨⟨ms_74, rfl, av_m3 (i := 71) rfl⟩, fun _ h => absurd h List.not_mem_nil⟩⟩⟩⟩⟩⟩⟩⟩⟩⟩⟩⟩⟩⟩⟩⟩⟩⟩⟩⟩⟩⟩⟩⟩⟩⟩⟩⟩⟩⟩⟩⟩⟩⟩⟩⟩⟩⟩⟩⟩
def av_ML0_2 : List (Nat × Nat × Nat) := [(5, 49, 70), (5, 53, 69), (6, 34, 80), (6, 38, 82), (6, 41, 83), (6, 54, 86), (6, 58, 85), (6, 61, 91), (7, 29, 34), (7, 38, 64), (7, 45, 45), (7, 54, 27), (7, 71, 79), (7, 75, 80), (7, 82, 81), (7, 85, 35), (7, 89, 99), (7, 92, 71), (7, 96, 69), (7, 104, 46), (7, 113, 65), (7, 120, 72), (7, 127, 73), (7, 133, 102), (7, 136, 28), (7, 139, 29), (7, 149, 47), (7, 153, 70), (7, 160, 48), (7, 168, 3), (7, 183, 17), (7, 187, 15), (7, 199, 18), (7, 203, 49), (7, 207, 56), (7, 216, 58), (7, 219, 19), (7, 222, 50), (7, 225, 60), (7, 228, 61)]
set_option maxRecDepth 100000 in
set_option maxHeartbeats 2000000 in
theorem av_ML0_2_ok : ∀ e ∈ av_ML0_2, ∃ r, av_TT e.2.2 = some r ∧ Cond.methodLink (av_cn e.1) e.2.1 r.2.1 ∈ lw_tbl := List.forall_mem_cons.mpr ⟨⟨ms_70, rfl, av_m4 (i := 100) rfl⟩, List.forall_mem_cons.mpr ⟨⟨ms_69, rfl, av_m4 (i := 187) rfl⟩, List.forall_mem_cons.mpr ⟨⟨ms_80, rfl, av_m2 (i := 93) rfl⟩, List.forall_mem_cons.mpr ⟨⟨ms_82, rfl, av_m2 (i := 94) rfl⟩, List.forall_mem_cons.mpr ⟨⟨ms_83, rfl, av_m2 (i := 98) rfl⟩, List.forall_mem_cons.mpr ⟨⟨ms_86, rfl, av_m2 (i := 130) rfl⟩, List.forall_mem_cons.mpr ⟨⟨ms_85, rfl, av_m2 (i := 182) rfl⟩, List.forall_mem_cons.mpr ⟨⟨ms_91, rfl, av_m2 (i := 215) rfl⟩, List.forall_mem_cons.mpr ⟨⟨ms_34, rfl, av_m1 (i := 99) rfl⟩, List.forall_mem_cons.mpr ⟨⟨ms_64, rfl, av_m1 (i := 115) rfl⟩, List.forall_mem_cons.mpr ⟨⟨ms_45, rfl, av_m1 (i := 129) rfl⟩, List.forall_mem_cons.mpr ⟨⟨ms_27, rfl, av_m2 (i := 44) rfl⟩, List.forall_mem_cons.mpr ⟨⟨ms_79, rfl, av_m2 (i := 77) rfl⟩, List.forall_mem_cons.mpr ⟨⟨ms_80, rfl, av_m2 (i := 85) rfl⟩, List.forall_mem_cons.mpr ⟨⟨ms_81, rfl, av_m2 (i := 89) rfl⟩, List.forall_mem_cons.mpr ⟨⟨ms_35, rfl, av_m2 (i := 101) rfl⟩, List.forall_mem_cons.mpr ⟨⟨ms_99, rfl, av_m3 (i := 11) rfl⟩, List.forall_mem_cons.mpr ⟨⟨ms_71, rfl, av_m3 (i := 15) rfl⟩, List.forall_mem_cons.mpr ⟨⟨ms_69, rfl, av_m3 (i := 23) rfl⟩, List.forall_mem_cons.mpr ⟨⟨ms_46, rfl, av_m3 (i := 27) rfl⟩, List.forall_mem_cons.mpr ⟨⟨ms_65, rfl, av_m3 (i := 38) rfl⟩, List.forall_mem_cons.mpr ⟨⟨ms_72, rfl, av_m3 (i := 64) rfl⟩, List.forall_mem_cons.mpr ⟨⟨ms_73, rfl, av_m3 (i := 78) rfl⟩, List.forall_mem_cons.mpr ⟨⟨ms_102, rfl, av_m3 (i := 90) rfl⟩, List.forall_mem_cons.mpr ⟨⟨ms_28, rfl, av_m3 (i := 93) rfl⟩, List.forall_mem_cons.mpr ⟨⟨ms_29, rfl, av_m3 (i := 97) rfl⟩, List.forall_mem_cons.mpr ⟨⟨ms_47, rfl, av_m3 (i := 110) rfl⟩, List.forall_mem_cons.mpr ⟨⟨ms_70, rfl, av_m3 (i := 142) rfl⟩, List.forall_mem_cons.mpr ⟨⟨ms_48, rfl, av_m3 (i := 150) rfl⟩, List.forall_mem_cons.mpr ⟨⟨ms_3, rfl, av_m3 (i := 219) rfl⟩, List.forall_mem_cons.mpr ⟨⟨ms_17, rfl, av_m3 (i := 223) rfl⟩, List.forall_mem_cons.mpr ⟨⟨ms_15, rfl, av_m3 (i := 235) rfl⟩, List.forall_mem_cons.mpr ⟨⟨ms_18, rfl, av_m4 (i := 4) rfl⟩, List.forall_mem_cons.mpr ⟨⟨ms_49, rfl, av_m4 (i := 12) rfl⟩, List.forall_mem_cons.mpr ⟨⟨ms_56, rfl, av_m4 (i := 16) rfl⟩, List.forall_mem_cons.mpr ⟨⟨ms_58, rfl, av_m4 (i := 31) rfl⟩, List.forall_mem_cons.mpr ⟨⟨ms_19, rfl, av_m4 (i := 43) rfl⟩, List.forall_mem_cons.mpr ⟨⟨ms_50, rfl, av_m4 (i := 60) rfl⟩, List.forall_mem_cons.mpr ⟨⟨ms_60, rfl, av_m4 (i := 64) rfl⟩, List.forall_mem_cons.mpr ⟨⟨ms_61, rfl, av_m4 (i := 74) rfl⟩, fun _ h => absurd h List.not_mem_nil⟩⟩⟩⟩⟩⟩⟩⟩⟩⟩⟩⟩⟩⟩⟩⟩⟩⟩⟩⟩⟩⟩⟩⟩⟩⟩⟩⟩⟩⟩⟩⟩⟩⟩⟩⟩⟩⟩⟩⟩
def av_ML0_3 : List (Nat × Nat × Nat) := [(7, 231, 218), (7, 236, 63), (7, 240, 21), (7, 243, 119), (7, 246, 23), (7, 249, 24), (7, 252, 32), (7, 255, 122), (7, 259, 33), (7, 262, 51), (7, 266, 77), (7, 269, 76), (8, 157, 129), (8, 176, 127), (8, 187, 132), (8, 191, 130), (8, 194, 131), (8, 229, 138), (8, 232, 134), (8, 238, 140), (8, 243, 133), (8, 247, 142), (8, 257, 144), (8, 261, 139), (8, 264, 137), (8, 268, 145), (8, 272, 141), (8, 282, 143), (8, 286, 135), (8, 289, 146), (8, 293, 136), (8, 296, 147), (8, 299, 149), (8, 308, 153), (8, 312, 152), (8, 339, 154), (8, 342, 155), (8, 345, 150), (8, 348, 159), (8, 360, 167)]
set_option maxRecDepth 100000 in
set_option maxHeartbeats 2000000 in
theorem av_ML0_3_ok : ∀ e ∈ av_ML0_3, ∃ r, av_TT e.2.2 = some r ∧ Cond.methodLink (av_cn e.1) e.2.1 r.2.1 ∈ lw_tbl := List.forall_mem_cons.mpr ⟨⟨ms_218, rfl, av_m4 (i := 86) rfl⟩, List.forall_mem_cons.mpr ⟨⟨ms_63, rfl, av_m4 (i := 92) rfl⟩, List.forall_mem_cons.mpr ⟨⟨ms_21, rfl, av_m4 (i := 105) rfl⟩, List.forall_mem_cons.mpr ⟨⟨ms_119, rfl, av_m4 (i := 117) rfl⟩, List.forall_mem_cons.mpr ⟨⟨ms_23, rfl, av_m4 (i := 120) rfl⟩, List.forall_mem_cons.mpr ⟨⟨ms_24, rfl, av_m4 (i := 137) rfl⟩, List.forall_mem_cons.mpr ⟨⟨ms_32, rfl, av_m4 (i := 145) rfl⟩, List.forall_mem_cons.mpr ⟨⟨ms_122, rfl, av_m4 (i := 153) rfl⟩, List.forall_mem_cons.mpr ⟨⟨ms_33, rfl, av_m4 (i := 162) rfl⟩, List.forall_mem_cons.mpr ⟨⟨ms_51, rfl, av_m4 (i := 157) rfl⟩, List.forall_mem_cons.mpr ⟨⟨ms_77, rfl, av_m4 (i := 171) rfl⟩, List.forall_mem_cons.mpr ⟨⟨ms_76, rfl, av_m4 (i := 183) rfl⟩, List.forall_mem_cons.mpr ⟨⟨ms_129, rfl, av_m5 (i := 160) rfl⟩, List.forall_mem_cons.mpr ⟨⟨ms_127, rfl, av_m5 (i := 165) rfl⟩, List.forall_mem_cons.mpr ⟨⟨ms_132, rfl, av_m5 (i := 224) rfl⟩, List.forall_mem_cons.mpr ⟨⟨ms_130, rfl, av_m5 (i := 156) rfl⟩, List.forall_mem_cons.mpr ⟨⟨ms_131, rfl, av_m5 (i := 174) rfl⟩, List.forall_mem_cons.mpr ⟨⟨ms_138, rfl, av_m5 (i := 210) rfl⟩, List.forall_mem_cons.mpr ⟨⟨ms_134, rfl, av_m5 (i := 219) rfl⟩, List.forall_mem_cons.mpr ⟨⟨ms_140, rfl, av_m5 (i := 234) rfl⟩, List.forall_mem_cons.mpr ⟨⟨ms_133, rfl, av_m6 (i := 2) rfl⟩, List.forall_mem_cons.mpr ⟨⟨ms_142, rfl, av_m6 (i := 6) rfl⟩, List.forall_mem_cons.mpr ⟨⟨ms_144, rfl, av_m5 (i := 202) rfl⟩, List.forall_mem_cons.mpr ⟨⟨ms_139, rfl, av_m5 (i := 182) rfl⟩, List.forall_mem_cons.mpr ⟨⟨ms_137, rfl, av_m5 (i := 193) rfl⟩, List.forall_mem_cons.mpr ⟨⟨ms_145, rfl, av_m5 (i := 198) rfl⟩, List.forall_mem_cons.mpr ⟨⟨ms_141, rfl, av_m5 (i := 206) rfl⟩, List.forall_mem_cons.mpr ⟨⟨ms_143, rfl, av_m5 (i := 230) rfl⟩, List.forall_mem_cons.mpr ⟨⟨ms_135, rfl, av_m6 (i := 14) rfl⟩, List.forall_mem_cons.mpr ⟨⟨ms_146, rfl, av_m5 (i := 178) rfl⟩, List.forall_mem_cons.mpr ⟨⟨ms_136, rfl, av_m5 (i := 152) rfl⟩, List.forall_mem_cons.mpr ⟨⟨ms_147, rfl, av_m5 (i := 170) rfl⟩, List.forall_mem_cons.mpr ⟨⟨ms_149, rfl, av_m6 (i := 22) rfl⟩, List.forall_mem_cons.mpr ⟨⟨ms_153, rfl, av_m6 (i := 39) rfl⟩, List.forall_mem_cons.mpr ⟨⟨ms_152, rfl, av_m6 (i := 43) rfl⟩, List.forall_mem_cons.mpr ⟨⟨ms_154, rfl, av_m6 (i := 34) rfl⟩, List.forall_mem_cons.mpr ⟨⟨ms_155, rfl, av_m6 (i := 30) rfl⟩, List.forall_mem_cons.mpr ⟨⟨ms_150, rfl, av_m6 (i := 73) rfl⟩, List.forall_mem_cons.mpr ⟨⟨ms_159, rfl, av_m6 (i := 77) rfl⟩, List.forall_mem_cons.mpr ⟨⟨ms_167, rfl, av_m6 (i := 145) rfl⟩, fun _ h => absurd h List.not_mem_nil⟩⟩⟩⟩⟩⟩⟩⟩⟩⟩⟩⟩⟩⟩⟩⟩⟩⟩⟩⟩⟩⟩⟩⟩⟩⟩⟩⟩⟩⟩⟩⟩⟩⟩⟩⟩⟩⟩⟩⟩
def av_ML0_4 : List (Nat × Nat × Nat) := [(8, 363, 166), (8, 366, 169), (8, 369, 168), (8, 372, 171), (8, 375, 173), (8, 378, 172), (8, 393, 170), (8, 396, 176), (8, 399, 177), (8, 403, 175), (8, 406, 178), (8, 409, 179), (8, 412, 165), (8, 415, 174), (8, 418, 180), (8, 421, 182), (8, 424, 163), (8, 427, 164), (8, 431, 181), (8, 434, 162), (8, 437, 184), (8, 440, 185), (8, 443, 188), (8, 446, 186), (8, 449, 183), (8, 452, 195), (8, 455, 194), (8, 458, 196), (8, 467, 200), (8, 470, 203), (8, 473, 206), (8, 476, 210), (8, 479, 209), (8, 485, 213), (8, 488, 216), (9, 9, 93), (9, 12, 126), (9, 13, 94), (9, 17, 128), (9, 18, 95)]
set_option maxRecDepth 100000 in
set_option maxHeartbeats 2000000 in
theorem av_ML0_4_ok : ∀ e ∈ av_ML0_4, ∃ r, av_TT e.2.2 = some r ∧ Cond.methodLink (av_cn e.1) e.2.1 r.2.1 ∈ lw_tbl := List.forall_mem_cons.mpr ⟨⟨ms_166, rfl, av_m6 (i := 113) rfl⟩, List.forall_mem_cons.mpr ⟨⟨ms_169, rfl, av_m6 (i := 161) rfl⟩, List.forall_mem_cons.mpr ⟨⟨ms_168, rfl, av_m6 (i := 141) rfl⟩, List.forall_mem_cons.mpr ⟨⟨ms_171, rfl, av_m6 (i := 149) rfl⟩, List.forall_mem_cons.mpr ⟨⟨ms_173, rfl, av_m6 (i := 153) rfl⟩, List.forall_mem_cons.mpr ⟨⟨ms_172, rfl, av_m6 (i := 157) rfl⟩, List.forall_mem_cons.mpr ⟨⟨ms_170, rfl, av_m6 (i := 169) rfl⟩, List.forall_mem_cons.mpr ⟨⟨ms_176, rfl, av_m6 (i := 173) rfl⟩, List.forall_mem_cons.mpr ⟨⟨ms_177, rfl, av_m6 (i := 177) rfl⟩, List.forall_mem_cons.mpr ⟨⟨ms_175, rfl, av_m6 (i := 181) rfl⟩, List.forall_mem_cons.mpr ⟨⟨ms_178, rfl, av_m6 (i := 185) rfl⟩, List.forall_mem_cons.mpr ⟨⟨ms_179, rfl, av_m6 (i := 189) rfl⟩, List.forall_mem_cons.mpr ⟨⟨ms_165, rfl, av_m6 (i := 109) rfl⟩, List.forall_mem_cons.mpr ⟨⟨ms_174, rfl, av_m6 (i := 137) rfl⟩, List.forall_mem_cons.mpr ⟨⟨ms_180, rfl, av_m6 (i := 165) rfl⟩, List.forall_mem_cons.mpr ⟨⟨ms_182, rfl, av_m6 (i := 197) rfl⟩, List.forall_mem_cons.mpr ⟨⟨ms_163, rfl, av_m6 (i := 97) rfl⟩, List.forall_mem_cons.mpr ⟨⟨ms_164, rfl, av_m6 (i := 101) rfl⟩, List.forall_mem_cons.mpr ⟨⟨ms_181, rfl, av_m6 (i := 133) rfl⟩, List.forall_mem_cons.mpr ⟨⟨ms_162, rfl, av_m6 (i := 93) rfl⟩, List.forall_mem_cons.mpr ⟨⟨ms_184, rfl, av_m6 (i := 129) rfl⟩, List.forall_mem_cons.mpr ⟨⟨ms_185, rfl, av_m6 (i := 125) rfl⟩, List.forall_mem_cons.mpr ⟨⟨ms_188, rfl, av_m6 (i := 89) rfl⟩, List.forall_mem_cons.mpr ⟨⟨ms_186, rfl, av_m6 (i := 121) rfl⟩, List.forall_mem_cons.mpr ⟨⟨ms_183, rfl, av_m6 (i := 193) rfl⟩, List.forall_mem_cons.mpr ⟨⟨ms_195, rfl, av_m6 (i := 224) rfl⟩, List.forall_mem_cons.mpr ⟨⟨ms_194, rfl, av_m6 (i := 217) rfl⟩, List.forall_mem_cons.mpr ⟨⟨ms_196, rfl, av_m6 (i := 220) rfl⟩, List.forall_mem_cons.mpr ⟨⟨ms_200, rfl, av_m7 (i := 0) rfl⟩, List.forall_mem_cons.mpr ⟨⟨ms_203, rfl, av_m7 (i := 12) rfl⟩, List.forall_mem_cons.mpr ⟨⟨ms_206, rfl, av_m7 (i := 24) rfl⟩, List.forall_mem_cons.mpr ⟨⟨ms_210, rfl, av_m7 (i := 36) rfl⟩, List.forall_mem_cons.mpr ⟨⟨ms_209, rfl, av_m7 (i := 40) rfl⟩, List.forall_mem_cons.mpr ⟨⟨ms_213, rfl, av_m7 (i := 52) rfl⟩, List.forall_mem_cons.mpr ⟨⟨ms_216, rfl, av_m7 (i := 64) rfl⟩, List.forall_mem_cons.mpr ⟨⟨ms_93, rfl, av_m1 (i := 20) rfl⟩, List.forall_mem_cons.mpr ⟨⟨ms_126, rfl, av_m4 (i := 190) rfl⟩, List.forall_mem_cons.mpr ⟨⟨ms_94, rfl, av_m2 (i := 73) rfl⟩, List.forall_mem_cons.mpr ⟨⟨ms_128, rfl, av_m5 (i := 144) rfl⟩, List.forall_mem_cons.mpr ⟨⟨ms_95, rfl, av_m2 (i := 81) rfl⟩, fun _ h => absurd h List.not_mem_nil⟩⟩⟩⟩⟩⟩⟩⟩⟩⟩⟩⟩⟩⟩⟩⟩⟩⟩⟩⟩⟩⟩⟩⟩⟩⟩⟩⟩⟩⟩⟩⟩⟩⟩⟩⟩⟩⟩⟩⟩
def av_ML0_5 : List (Nat × Nat × Nat) := [(9, 22, 148), (9, 23, 96), (9, 27, 151), (9, 28, 97), (9, 31, 156), (9, 32, 98), (9, 35, 157), (9, 36, 100), (9, 40, 158), (9, 41, 101), (9, 45, 161), (9, 46, 103), (9, 49, 187), (9, 50, 104), (9, 54, 189), (9, 55, 105), (9, 58, 160), (9, 59, 106), (9, 62, 190), (9, 63, 107), (9, 66, 191), (9, 67, 108), (9, 70, 192), (9, 71, 109), (9, 74, 193), (9, 75, 110), (9, 78, 197), (9, 79, 111), (9, 82, 198), (9, 83, 112), (9, 86, 199), (9, 87, 113), (9, 90, 201), (9, 91, 114), (9, 94, 202), (9, 95, 115), (9, 98, 204), (9, 99, 116), (9, 102, 205), (9, 103, 117)]
set_option maxRecDepth 100000 in
set_option maxHeartbeats 2000000 in
theorem av_ML0_5_ok : ∀ e ∈ av_ML0_5, ∃ r, av_TT e.2.2 = some r ∧ Cond.methodLink (av_cn e.1) e.2.1 r.2.1 ∈ lw_tbl := List.forall_mem_cons.mpr ⟨⟨ms_148, rfl, av_m5 (i := 148) rfl⟩, List.forall_mem_cons.mpr ⟨⟨ms_96, rfl, av_m3 (i := 19) rfl⟩, List.forall_mem_cons.mpr ⟨⟨ms_151, rfl, av_m6 (i := 18) rfl⟩, List.forall_mem_cons.mpr ⟨⟨ms_97, rfl, av_m3 (i := 34) rfl⟩, List.forall_mem_cons.mpr ⟨⟨ms_156, rfl, av_m6 (i := 26) rfl⟩, List.forall_mem_cons.mpr ⟨⟨ms_98, rfl, av_m3 (i := 74) rfl⟩, List.forall_mem_cons.mpr ⟨⟨ms_157, rfl, av_m6 (i := 61) rfl⟩, List.forall_mem_cons.mpr ⟨⟨ms_100, rfl, av_m3 (i := 82) rfl⟩, List.forall_mem_cons.mpr ⟨⟨ms_158, rfl, av_m6 (i := 65) rfl⟩, List.forall_mem_cons.mpr ⟨⟨ms_101, rfl, av_m3 (i := 86) rfl⟩, List.forall_mem_cons.mpr ⟨⟨ms_161, rfl, av_m6 (i := 81) rfl⟩, List.forall_mem_cons.mpr ⟨⟨ms_103, rfl, av_m3 (i := 102) rfl⟩, List.forall_mem_cons.mpr ⟨⟨ms_187, rfl, av_m6 (i := 85) rfl⟩, List.forall_mem_cons.mpr ⟨⟨ms_104, rfl, av_m3 (i := 106) rfl⟩, List.forall_mem_cons.mpr ⟨⟨ms_189, rfl, av_m6 (i := 105) rfl⟩, List.forall_mem_cons.mpr ⟨⟨ms_105, rfl, av_m3 (i := 138) rfl⟩, List.forall_mem_cons.mpr ⟨⟨ms_160, rfl, av_m6 (i := 69) rfl⟩, List.forall_mem_cons.mpr ⟨⟨ms_106, rfl, av_m3 (i := 146) rfl⟩, List.forall_mem_cons.mpr ⟨⟨ms_190, rfl, av_m6 (i := 117) rfl⟩, List.forall_mem_cons.mpr ⟨⟨ms_107, rfl, av_m3 (i := 231) rfl⟩, List.forall_mem_cons.mpr ⟨⟨ms_191, rfl, av_m6 (i := 201) rfl⟩, List.forall_mem_cons.mpr ⟨⟨ms_108, rfl, av_m4 (i := 0) rfl⟩, List.forall_mem_cons.mpr ⟨⟨ms_192, rfl, av_m6 (i := 205) rfl⟩, List.forall_mem_cons.mpr ⟨⟨ms_109, rfl, av_m4 (i := 8) rfl⟩, List.forall_mem_cons.mpr ⟨⟨ms_193, rfl, av_m6 (i := 209) rfl⟩, List.forall_mem_cons.mpr ⟨⟨ms_110, rfl, av_m4 (i := 27) rfl⟩, List.forall_mem_cons.mpr ⟨⟨ms_197, rfl, av_m6 (i := 213) rfl⟩, List.forall_mem_cons.mpr ⟨⟨ms_111, rfl, av_m4 (i := 39) rfl⟩, List.forall_mem_cons.mpr ⟨⟨ms_198, rfl, av_m6 (i := 228) rfl⟩, List.forall_mem_cons.mpr ⟨⟨ms_112, rfl, av_m4 (i := 52) rfl⟩, List.forall_mem_cons.mpr ⟨⟨ms_199, rfl, av_m6 (i := 232) rfl⟩, List.forall_mem_cons.mpr ⟨⟨ms_113, rfl, av_m4 (i := 56) rfl⟩, List.forall_mem_cons.mpr ⟨⟨ms_201, rfl, av_m6 (i := 236) rfl⟩, List.forall_mem_cons.mpr ⟨⟨ms_114, rfl, av_m4 (i := 78) rfl⟩, List.forall_mem_cons.mpr ⟨⟨ms_202, rfl, av_m7 (i := 4) rfl⟩, List.forall_mem_cons.mpr ⟨⟨ms_115, rfl, av_m4 (i := 82) rfl⟩, List.forall_mem_cons.mpr ⟨⟨ms_204, rfl, av_m7 (i := 8) rfl⟩, List.forall_mem_cons.mpr ⟨⟨ms_116, rfl, av_m4 (i := 101) rfl⟩, List.forall_mem_cons.mpr ⟨⟨ms_205, rfl, av_m7 (i := 16) rfl⟩, List.forall_mem_cons.mpr ⟨⟨ms_117, rfl, av_m4 (i := 113) rfl⟩, fun _ h => absurd h List.not_mem_nil⟩⟩⟩⟩⟩⟩⟩⟩⟩⟩⟩⟩⟩⟩⟩⟩⟩⟩⟩⟩⟩⟩⟩⟩⟩⟩⟩⟩⟩⟩⟩⟩⟩⟩⟩⟩⟩⟩⟩⟩
def av_ML0_6 : List (Nat × Nat × Nat) := [(9, 106, 207), (9, 107, 118), (9, 110, 208), (9, 111, 120), (9, 114, 211), (9, 115, 121), (9, 118, 212), (9, 119, 123), (9, 122, 214), (9, 123, 124), (9, 127, 215), (9, 128, 125), (9, 131, 217), (10, 13, 219)]
set_option maxRecDepth 100000 in
set_option maxHeartbeats 2000000 in
theorem av_ML0_6_ok : ∀ e ∈ av_ML0_6, ∃ r, av_TT e.2.2 = some r ∧ Cond.methodLink (av_cn e.1) e.2.1 r.2.1 ∈ lw_tbl := List.forall_mem_cons.mpr ⟨⟨ms_207, rfl, av_m7 (i := 20) rfl⟩, List.forall_mem_cons.mpr ⟨⟨ms_118, rfl, av_m4 (i := 133) rfl⟩, List.forall_mem_cons.mpr ⟨⟨ms_208, rfl, av_m7 (i := 28) rfl⟩, List.forall_mem_cons.mpr ⟨⟨ms_120, rfl, av_m4 (i := 141) rfl⟩, List.forall_mem_cons.mpr ⟨⟨ms_211, rfl, av_m7 (i := 32) rfl⟩, List.forall_mem_cons.mpr ⟨⟨ms_121, rfl, av_m4 (i := 158) rfl⟩, List.forall_mem_cons.mpr ⟨⟨ms_212, rfl, av_m7 (i := 44) rfl⟩, List.forall_mem_cons.mpr ⟨⟨ms_123, rfl, av_m4 (i := 167) rfl⟩, List.forall_mem_cons.mpr ⟨⟨ms_214, rfl, av_m7 (i := 48) rfl⟩, List.forall_mem_cons.mpr ⟨⟨ms_124, rfl, av_m4 (i := 175) rfl⟩, List.forall_mem_cons.mpr ⟨⟨ms_215, rfl, av_m7 (i := 56) rfl⟩, List.forall_mem_cons.mpr ⟨⟨ms_125, rfl, av_m4 (i := 179) rfl⟩, List.forall_mem_cons.mpr ⟨⟨ms_217, rfl, av_m7 (i := 60) rfl⟩, List.forall_mem_cons.mpr ⟨⟨ms_219, rfl, av_m2 (i := 122) rfl⟩, fun _ h => absurd h List.not_mem_nil⟩⟩⟩⟩⟩⟩⟩⟩⟩⟩⟩⟩⟩⟩
def av_ML0 : List (Nat × Nat × Nat) := av_ML0_0 ++ av_ML0_1 ++ av_ML0_2 ++ av_ML0_3 ++ av_ML0_4 ++ av_ML0_5 ++ av_ML0_6
theorem av_ML0_ok : ∀ e ∈ av_ML0, ∃ r, av_TT e.2.2 = some r ∧ Cond.methodLink (av_cn e.1) e.2.1 r.2.1 ∈ lw_tbl := List.forall_mem_append.mpr ⟨List.forall_mem_append.mpr ⟨List.forall_mem_append.mpr ⟨List.forall_mem_append.mpr ⟨List.forall_mem_append.mpr ⟨List.forall_mem_append.mpr ⟨av_ML0_0_ok, av_ML0_1_ok⟩, av_ML0_2_ok⟩, av_ML0_3_ok⟩, av_ML0_4_ok⟩, av_ML0_5_ok⟩, av_ML0_6_ok⟩
def av_ML1_0 : List (Nat × Nat × Nat) := [(7, 9, 78), (7, 18, 68)]
set_option maxRecDepth 100000 in
set_option maxHeartbeats 2000000 in
theorem av_ML1_0_ok : ∀ e ∈ av_ML1_0, ∃ r, av_TT e.2.2 = some r ∧ Cond.methodLinkNest (av_cn e.1) e.2.1 r.2.1 "CrossingWords" ∈ lw_tbl := List.forall_mem_cons.mpr ⟨⟨ms_78, rfl, av_m1 (i := 28) rfl⟩, List.forall_mem_cons.mpr ⟨⟨ms_68, rfl, av_m1 (i := 61) rfl⟩, fun _ h => absurd h List.not_mem_nil⟩⟩
def av_ML1 : List (Nat × Nat × Nat) := av_ML1_0
theorem av_ML1_ok : ∀ e ∈ av_ML1, ∃ r, av_TT e.2.2 = some r ∧ Cond.methodLinkNest (av_cn e.1) e.2.1 r.2.1 "CrossingWords" ∈ lw_tbl := av_ML1_0_ok
def av_AT_0 : List (Nat × Nat × Nat) := [(5, 9, 30), (7, 16, 31)]
set_option maxRecDepth 100000 in
set_option maxHeartbeats 2000000 in
theorem av_AT_0_ok : ∀ e ∈ av_AT_0, ∃ C0, av_ft e.2.2 = .object C0 ∧ Cond.classLink (av_cn e.1) e.2.1 C0 ∈ lw_tbl ∧ Cond.arrayOver (.object C0) ∈ lw_tbl := List.forall_mem_cons.mpr ⟨⟨RX1, rfl, av_m1 (i := 65) rfl, av_m1 (i := 66) rfl⟩, List.forall_mem_cons.mpr ⟨⟨RX5, rfl, av_m1 (i := 59) rfl, av_m1 (i := 96) rfl⟩, fun _ h => absurd h List.not_mem_nil⟩⟩
def av_AT : List (Nat × Nat × Nat) := av_AT_0
theorem av_AT_ok : ∀ e ∈ av_AT, ∃ C0, av_ft e.2.2 = .object C0 ∧ Cond.classLink (av_cn e.1) e.2.1 C0 ∈ lw_tbl ∧ Cond.arrayOver (.object C0) ∈ lw_tbl := av_AT_0_ok
def av_NT_0 : List (Nat × Nat) := [(5, 17)]
set_option maxRecDepth 100000 in
set_option maxHeartbeats 2000000 in
theorem av_NT_0_ok : ∀ e ∈ av_NT_0, Cond.classLink (av_cn e.1) e.2 "[[I" ∈ lw_tbl := List.forall_mem_cons.mpr ⟨av_m1 (i := 67) rfl, fun _ h => absurd h List.not_mem_nil⟩
def av_NT : List (Nat × Nat) := av_NT_0
theorem av_NT_ok : ∀ e ∈ av_NT, Cond.classLink (av_cn e.1) e.2 "[[I" ∈ lw_tbl := av_NT_0_ok
def av_XT_0 : List (Nat × Nat) := [(1, 48), (10, 317)]
set_option maxRecDepth 100000 in
set_option maxHeartbeats 2000000 in
theorem av_XT_0_ok : ∀ e ∈ av_XT_0, Cond.classLink (av_cn e.1) e.2 "[I" ∈ lw_tbl := List.forall_mem_cons.mpr ⟨av_m4 (i := 150) rfl, List.forall_mem_cons.mpr ⟨av_m1 (i := 148) rfl, fun _ h => absurd h List.not_mem_nil⟩⟩
def av_XT : List (Nat × Nat) := av_XT_0
theorem av_XT_ok : ∀ e ∈ av_XT, Cond.classLink (av_cn e.1) e.2 "[I" ∈ lw_tbl := av_XT_0_ok
def av_GT_0 : List (Nat × Nat) := [(5, 35)]
set_option maxRecDepth 100000 in
set_option maxHeartbeats 2000000 in
theorem av_GT_0_ok : ∀ e ∈ av_GT_0, Cond.fieldLinkNest (av_cn e.1) e.2 RX7 "PLAIN_LAW" "[I" "CrossingWords" ∈ lw_tbl := List.forall_mem_cons.mpr ⟨av_m3 (i := 68) rfl, fun _ h => absurd h List.not_mem_nil⟩
def av_GT : List (Nat × Nat) := av_GT_0
theorem av_GT_ok : ∀ e ∈ av_GT, Cond.fieldLinkNest (av_cn e.1) e.2 RX7 "PLAIN_LAW" "[I" "CrossingWords" ∈ lw_tbl := av_GT_0_ok
set_option maxRecDepth 100000 in
set_option maxHeartbeats 2000000 in
theorem av_f_ac_byte : Cond.arrayClass .byte ∈ lw_tbl := av_m1 (i := 58) rfl
set_option maxRecDepth 100000 in
set_option maxHeartbeats 2000000 in
theorem av_f_ac_boolean : Cond.arrayClass .boolean ∈ lw_tbl := av_m1 (i := 182) rfl
/-! THE BYTES READ FAST: a method's bytes as a list, gone through once -/
def av_by (cc : ByteArray) : List UInt8 := cc.data.toList
theorem av_drp {α : Type} : ∀ {l : List α} {p : Nat} {a : α} {r : List α}, l.drop p = a :: r → l.drop (p + 1) = r
  | [], p, a, r, h => by simp at h
  | x :: l, 0, a, r, h => by
    have h : x :: l = a :: r := h
    cases h
    rfl
  | x :: l, p + 1, a, r, h => av_drp (l := l) (p := p) h
theorem av_drd {α : Type} : ∀ {l : List α} {p n : Nat}, (l.drop p).drop n = l.drop (p + n)
  | [], p, n => by simp
  | x :: l, 0, n => by rw [Nat.zero_add]; rfl
  | x :: l, p + 1, n => by
    rw [show p + 1 + n = (p + n) + 1 by omega]
    exact av_drd (l := l) (p := p) (n := n)
theorem av_dr0 {α : Type} : ∀ {l : List α} {p : Nat} {a : α} {r : List α}, l.drop p = a :: r → ∃ h : p < l.length, l[p] = a
  | [], p, a, r, h => by simp at h
  | x :: l, 0, a, r, h => by
    have h : x :: l = a :: r := h
    cases h
    exact ⟨Nat.zero_lt_succ _, rfl⟩
  | x :: l, p + 1, a, r, h => by
    obtain ⟨h1, h2⟩ := av_dr0 (l := l) (p := p) h
    exact ⟨Nat.succ_lt_succ h1, h2⟩
section
variable {cc : ByteArray} {pc p : Nat} {a b c : UInt8} {r l : List UInt8}
theorem av_r1 (h : (av_by cc).drop p = a :: r) : (Jvm.ClassFile.Reader.u1 : Jvm.ClassFile.Decoder Nat) cc p = Except.ok (a.toNat, p + 1) := by
  obtain ⟨h1, h2⟩ := av_dr0 h
  have hl : p < cc.size := h1
  have hv : cc[p]'hl = a := h2
  have key : (Jvm.ClassFile.Reader.u1 : Jvm.ClassFile.Decoder Nat) cc p = (dite (p < cc.size) (fun h => (do set (p + 1); pure (cc[p]'h).toNat : Jvm.ClassFile.Decoder Nat)) (fun _ => throw (Jvm.ClassFile.HasTruncated.truncated p))) cc p := rfl
  rw [key, dif_pos hl]
  show Except.ok ((cc[p]'hl).toNat, p + 1) = _
  rw [hv]
theorem av_r2 (h : (av_by cc).drop p = a :: b :: r) : (Jvm.ClassFile.Reader.u2 : Jvm.ClassFile.Decoder Nat) cc p = Except.ok (a.toNat * 256 + b.toNat, p + 2) := by
  show Except.bind ((Jvm.ClassFile.Reader.u1 : Jvm.ClassFile.Decoder Nat) cc p) (fun q => Except.bind ((Jvm.ClassFile.Reader.u1 : Jvm.ClassFile.Decoder Nat) cc q.2) (fun w => Except.ok (q.1 * 256 + w.1, w.2))) = _
  rw [av_r1 h]
  show Except.bind ((Jvm.ClassFile.Reader.u1 : Jvm.ClassFile.Decoder Nat) cc (p + 1)) (fun w => Except.ok (a.toNat * 256 + w.1, w.2)) = _
  rw [av_r1 (av_drp h)]
  rfl
theorem av_r1s (h : (av_by cc).drop p = a :: r) : (Jvm.ClassFile.Reader.s1 : Jvm.ClassFile.Decoder Int) cc p = Except.ok (Jvm.ClassFile.Reader.signed 8 a.toNat, p + 1) := by
  show Except.bind ((Jvm.ClassFile.Reader.u1 : Jvm.ClassFile.Decoder Nat) cc p) (fun q => Except.ok (Jvm.ClassFile.Reader.signed 8 q.1, q.2)) = _
  rw [av_r1 h]
  rfl
theorem av_r2s (h : (av_by cc).drop p = a :: b :: r) : (Jvm.ClassFile.Reader.s2 : Jvm.ClassFile.Decoder Int) cc p = Except.ok (Jvm.ClassFile.Reader.signed 16 (a.toNat * 256 + b.toNat), p + 2) := by
  show Except.bind ((Jvm.ClassFile.Reader.u2 : Jvm.ClassFile.Decoder Nat) cc p) (fun q => Except.ok (Jvm.ClassFile.Reader.signed 16 q.1, q.2)) = _
  rw [av_r2 h]
  rfl
end
/-- what stands behind the first byte -/
noncomputable def av_Ks (pc : Nat) : { K : Nat → Jvm.ClassFile.Decoder Instr // Jvm.ClassFile.Decoder.instr pc = ReaderT.bind Jvm.ClassFile.Reader.u1 K } := by
  delta Jvm.ClassFile.Decoder.instr
  exact ⟨_, rfl⟩
noncomputable def av_K (pc : Nat) : Nat → Jvm.ClassFile.Decoder Instr := (av_Ks pc).1
theorem av_K_eq (pc : Nat) : Jvm.ClassFile.Decoder.instr pc = ReaderT.bind Jvm.ClassFile.Reader.u1 (av_K pc) := (av_Ks pc).2
section
variable {cc : ByteArray} {pc k n : Nat} {a b c : UInt8} {r l : List UInt8} {i : Instr}
theorem av_dd (h1 : (Jvm.ClassFile.Reader.u1 : Jvm.ClassFile.Decoder Nat) cc pc = Except.ok (k, pc + 1)) (h2 : av_K pc k cc (pc + 1) = Except.ok (i, pc + n)) : decode cc pc = .ok (i, n) := by
  have e : Jvm.ClassFile.Decoder.instr pc cc pc = Except.ok (i, pc + n) := by
    rw [av_K_eq]
    show Except.bind ((Jvm.ClassFile.Reader.u1 : Jvm.ClassFile.Decoder Nat) cc pc) (fun q => av_K pc q.1 cc q.2) = _
    rw [h1]
    exact h2
  show Except.bind (Jvm.ClassFile.Decoder.instr pc cc pc) (fun q => Except.ok (q.1, q.2 - pc)) = _
  rw [e]
  show Except.ok (i, pc + n - pc) = _
  rw [Nat.add_sub_cancel_left]
def av_c1 (k : Nat) (l : List UInt8) : Bool := match l with
  | a :: _ => Nat.beq a.toNat k
  | _ => false
def av_c2 (k v : Nat) (l : List UInt8) : Bool := match l with
  | a :: b :: _ => Nat.beq a.toNat k && Nat.beq b.toNat v
  | _ => false
def av_c2s (k : Nat) (v : Int) (l : List UInt8) : Bool := match l with
  | a :: b :: _ => Nat.beq a.toNat k && decide (Jvm.ClassFile.Reader.signed 8 b.toNat = v)
  | _ => false
def av_c3 (k v : Nat) (l : List UInt8) : Bool := match l with
  | a :: b :: c :: _ => Nat.beq a.toNat k && Nat.beq (b.toNat * 256 + c.toNat) v
  | _ => false
def av_c3s (k : Nat) (v : Int) (l : List UInt8) : Bool := match l with
  | a :: b :: c :: _ => Nat.beq a.toNat k && decide (Jvm.ClassFile.Reader.signed 16 (b.toNat * 256 + c.toNat) = v)
  | _ => false
def av_c3i (k v : Nat) (w : Int) (l : List UInt8) : Bool := match l with
  | a :: b :: c :: _ => Nat.beq a.toNat k && Nat.beq b.toNat v && decide (Jvm.ClassFile.Reader.signed 8 c.toNat = w)
  | _ => false
theorem av_s1 (h : (av_by cc).drop pc = l) (e : av_c1 k l = true) (hk : ∀ s, av_K pc k cc s = Except.ok (i, s)) : decode cc pc = .ok (i, 1) := by
  match l, h, e with
  | [], h, e => exact absurd (show false = true from e) Bool.false_ne_true
  | a :: r, h, e => exact av_dd (by rw [av_r1 h, Nat.eq_of_beq_eq_true e]) (hk _)
theorem av_s2 {f : Nat → Instr} {v : Nat} (h : (av_by cc).drop pc = l) (e : av_c2 k v l = true) (hk : av_K pc k = ReaderT.bind Jvm.ClassFile.Reader.u1 (fun q => pure (f q))) : decode cc pc = .ok (f v, 2) := by
  match l, h, e with
  | [], h, e => exact absurd (show false = true from e) Bool.false_ne_true
  | [_], h, e => exact absurd (show false = true from e) Bool.false_ne_true
  | a :: b :: r, h, e =>
    obtain ⟨e1, e2⟩ := (Bool.and_eq_true _ _).mp e
    refine av_dd (k := k) (by rw [av_r1 h, Nat.eq_of_beq_eq_true e1]) ?_
    rw [hk]
    show Except.bind ((Jvm.ClassFile.Reader.u1 : Jvm.ClassFile.Decoder Nat) cc (pc + 1)) (fun q => Except.ok (f q.1, q.2)) = _
    rw [av_r1 (av_drp h), Nat.eq_of_beq_eq_true e2]
    rfl
theorem av_s2s {f : Int → Instr} {v : Int} (h : (av_by cc).drop pc = l) (e : av_c2s k v l = true) (hk : av_K pc k = ReaderT.bind Jvm.ClassFile.Reader.s1 (fun q => pure (f q))) : decode cc pc = .ok (f v, 2) := by
  match l, h, e with
  | [], h, e => exact absurd (show false = true from e) Bool.false_ne_true
  | [_], h, e => exact absurd (show false = true from e) Bool.false_ne_true
  | a :: b :: r, h, e =>
    obtain ⟨e1, e2⟩ := (Bool.and_eq_true _ _).mp e
    refine av_dd (k := k) (by rw [av_r1 h, Nat.eq_of_beq_eq_true e1]) ?_
    rw [hk]
    show Except.bind ((Jvm.ClassFile.Reader.s1 : Jvm.ClassFile.Decoder Int) cc (pc + 1)) (fun q => Except.ok (f q.1, q.2)) = _
    rw [av_r1s (av_drp h), of_decide_eq_true e2]
    rfl
theorem av_s3 {f : Nat → Instr} {v : Nat} (h : (av_by cc).drop pc = l) (e : av_c3 k v l = true) (hk : av_K pc k = ReaderT.bind Jvm.ClassFile.Reader.u2 (fun q => pure (f q))) : decode cc pc = .ok (f v, 3) := by
  match l, h, e with
  | [], h, e => exact absurd (show false = true from e) Bool.false_ne_true
  | [_], h, e => exact absurd (show false = true from e) Bool.false_ne_true
  | [_, _], h, e => exact absurd (show false = true from e) Bool.false_ne_true
  | a :: b :: c :: r, h, e =>
    obtain ⟨e1, e2⟩ := (Bool.and_eq_true _ _).mp e
    refine av_dd (k := k) (by rw [av_r1 h, Nat.eq_of_beq_eq_true e1]) ?_
    rw [hk]
    show Except.bind ((Jvm.ClassFile.Reader.u2 : Jvm.ClassFile.Decoder Nat) cc (pc + 1)) (fun q => Except.ok (f q.1, q.2)) = _
    rw [av_r2 (av_drp h), Nat.eq_of_beq_eq_true e2]
    rfl
theorem av_s3s {f : Int → Instr} {v : Int} (h : (av_by cc).drop pc = l) (e : av_c3s k v l = true) (hk : av_K pc k = ReaderT.bind Jvm.ClassFile.Reader.s2 (fun q => pure (f q))) : decode cc pc = .ok (f v, 3) := by
  match l, h, e with
  | [], h, e => exact absurd (show false = true from e) Bool.false_ne_true
  | [_], h, e => exact absurd (show false = true from e) Bool.false_ne_true
  | [_, _], h, e => exact absurd (show false = true from e) Bool.false_ne_true
  | a :: b :: c :: r, h, e =>
    obtain ⟨e1, e2⟩ := (Bool.and_eq_true _ _).mp e
    refine av_dd (k := k) (by rw [av_r1 h, Nat.eq_of_beq_eq_true e1]) ?_
    rw [hk]
    show Except.bind ((Jvm.ClassFile.Reader.s2 : Jvm.ClassFile.Decoder Int) cc (pc + 1)) (fun q => Except.ok (f q.1, q.2)) = _
    rw [av_r2s (av_drp h), of_decide_eq_true e2]
    rfl
theorem av_s3i {f : Nat → Int → Instr} {v : Nat} {w : Int} (h : (av_by cc).drop pc = l) (e : av_c3i k v w l = true) (hk : av_K pc k = ReaderT.bind Jvm.ClassFile.Reader.u1 (fun q => ReaderT.bind Jvm.ClassFile.Reader.s1 (fun z => pure (f q z)))) : decode cc pc = .ok (f v w, 3) := by
  match l, h, e with
  | [], h, e => exact absurd (show false = true from e) Bool.false_ne_true
  | [_], h, e => exact absurd (show false = true from e) Bool.false_ne_true
  | [_, _], h, e => exact absurd (show false = true from e) Bool.false_ne_true
  | a :: b :: c :: r, h, e =>
    obtain ⟨e0, e3⟩ := (Bool.and_eq_true _ _).mp e
    obtain ⟨e1, e2⟩ := (Bool.and_eq_true _ _).mp e0
    refine av_dd (k := k) (by rw [av_r1 h, Nat.eq_of_beq_eq_true e1]) ?_
    rw [hk]
    show Except.bind ((Jvm.ClassFile.Reader.u1 : Jvm.ClassFile.Decoder Nat) cc (pc + 1)) (fun q => Except.bind ((Jvm.ClassFile.Reader.s1 : Jvm.ClassFile.Decoder Int) cc q.2) (fun z => Except.ok (f q.1 z.1, z.2))) = _
    rw [av_r1 (av_drp h), Nat.eq_of_beq_eq_true e2]
    show Except.bind ((Jvm.ClassFile.Reader.s1 : Jvm.ClassFile.Decoder Int) cc (pc + 1 + 1)) (fun z => Except.ok (f v z.1, z.2)) = _
    rw [av_r1s (av_drp (av_drp h)), of_decide_eq_true e3]
    rfl
theorem av_k_al : ∀ (n : Fin 4) (s : Nat), av_K pc (42 + n.val) cc s = Except.ok (.aload_n n, s)
  | ⟨0, _⟩ => fun s => (rfl : av_K pc 42 cc s = Except.ok (.aload_n 0, s))
  | ⟨1, _⟩ => fun s => (rfl : av_K pc 43 cc s = Except.ok (.aload_n 1, s))
  | ⟨2, _⟩ => fun s => (rfl : av_K pc 44 cc s = Except.ok (.aload_n 2, s))
  | ⟨3, _⟩ => fun s => (rfl : av_K pc 45 cc s = Except.ok (.aload_n 3, s))
theorem av_k_il : ∀ (n : Fin 4) (s : Nat), av_K pc (26 + n.val) cc s = Except.ok (.iload_n n, s)
  | ⟨0, _⟩ => fun s => (rfl : av_K pc 26 cc s = Except.ok (.iload_n 0, s))
  | ⟨1, _⟩ => fun s => (rfl : av_K pc 27 cc s = Except.ok (.iload_n 1, s))
  | ⟨2, _⟩ => fun s => (rfl : av_K pc 28 cc s = Except.ok (.iload_n 2, s))
  | ⟨3, _⟩ => fun s => (rfl : av_K pc 29 cc s = Except.ok (.iload_n 3, s))
theorem av_k_is : ∀ (n : Fin 4) (s : Nat), av_K pc (59 + n.val) cc s = Except.ok (.istore_n n, s)
  | ⟨0, _⟩ => fun s => (rfl : av_K pc 59 cc s = Except.ok (.istore_n 0, s))
  | ⟨1, _⟩ => fun s => (rfl : av_K pc 60 cc s = Except.ok (.istore_n 1, s))
  | ⟨2, _⟩ => fun s => (rfl : av_K pc 61 cc s = Except.ok (.istore_n 2, s))
  | ⟨3, _⟩ => fun s => (rfl : av_K pc 62 cc s = Except.ok (.istore_n 3, s))
theorem av_k_ic {v : Int} (h : (decide (-1 ≤ v) && decide (v ≤ 5)) = true) : ∀ s : Nat, av_K pc (v + 3).toNat cc s = Except.ok (.iconst v, s) := by
  obtain ⟨h1, h2⟩ := (Bool.and_eq_true _ _).mp h
  have h1 := of_decide_eq_true h1
  have h2 := of_decide_eq_true h2
  intro s
  rcases (show v = -1 ∨ v = 0 ∨ v = 1 ∨ v = 2 ∨ v = 3 ∨ v = 4 ∨ v = 5 by omega) with e | e | e | e | e | e | e <;> subst e
  · exact (rfl : av_K pc 2 cc s = Except.ok (.iconst (-1), s))
  · exact (rfl : av_K pc 3 cc s = Except.ok (.iconst 0, s))
  · exact (rfl : av_K pc 4 cc s = Except.ok (.iconst 1, s))
  · exact (rfl : av_K pc 5 cc s = Except.ok (.iconst 2, s))
  · exact (rfl : av_K pc 6 cc s = Except.ok (.iconst 3, s))
  · exact (rfl : av_K pc 7 cc s = Except.ok (.iconst 4, s))
  · exact (rfl : av_K pc 8 cc s = Except.ok (.iconst 5, s))
def av_co : Jvm.ClassFile.Cond → Nat
  | .eq => 0
  | .ne => 1
  | .lt => 2
  | .ge => 3
  | .gt => 4
  | .le => 5
theorem av_k_if : ∀ c : Jvm.ClassFile.Cond, av_K pc (153 + av_co c) = ReaderT.bind Jvm.ClassFile.Reader.s2 (fun q => pure (Instr.ifCond c q))
  | .eq => (rfl : av_K pc 153 = _)
  | .ne => (rfl : av_K pc 154 = _)
  | .lt => (rfl : av_K pc 155 = _)
  | .ge => (rfl : av_K pc 156 = _)
  | .gt => (rfl : av_K pc 157 = _)
  | .le => (rfl : av_K pc 158 = _)
theorem av_k_ii : ∀ c : Jvm.ClassFile.Cond, av_K pc (159 + av_co c) = ReaderT.bind Jvm.ClassFile.Reader.s2 (fun q => pure (Instr.if_icmp c q))
  | .eq => (rfl : av_K pc 159 = _)
  | .ne => (rfl : av_K pc 160 = _)
  | .lt => (rfl : av_K pc 161 = _)
  | .ge => (rfl : av_K pc 162 = _)
  | .gt => (rfl : av_K pc 163 = _)
  | .le => (rfl : av_K pc 164 = _)
/-- one entry against the bytes from its place on -/
def av_ck (cc : ByteArray) (pc : Nat) (x : av_E) (l : List UInt8) : Bool := match x.1 with
  | .aload_n n => av_c1 (42 + n.val) l
  | .iload_n n => av_c1 (26 + n.val) l
  | .istore_n n => av_c1 (59 + n.val) l
  | .iconst v => (decide (-1 ≤ v) && decide (v ≤ 5)) && av_c1 (v + 3).toNat l
  | .aconst_null => av_c1 1 l
  | .iaload => av_c1 46 l
  | .aaload => av_c1 50 l
  | .baload => av_c1 51 l
  | .iastore => av_c1 79 l
  | .aastore => av_c1 83 l
  | .bastore => av_c1 84 l
  | .pop => av_c1 87 l
  | .dup => av_c1 89 l
  | .iadd => av_c1 96 l
  | .isub => av_c1 100 l
  | .imul => av_c1 104 l
  | .ishl => av_c1 120 l
  | .ishr => av_c1 122 l
  | .iushr => av_c1 124 l
  | .iand => av_c1 126 l
  | .ior => av_c1 128 l
  | .ireturn => av_c1 172 l
  | .return_ => av_c1 177 l
  | .areturn => av_c1 176 l
  | .arraylength => av_c1 190 l
  | .lcmp => av_c1 148 l
  | .iload v => av_c2 21 v l
  | .aload v => av_c2 25 v l
  | .istore v => av_c2 54 v l
  | .astore v => av_c2 58 v l
  | .ldc v => av_c2 18 v l
  | .ldc2_w v => av_c3 20 v l
  | .getfield v => av_c3 180 v l
  | .putfield v => av_c3 181 v l
  | .invokevirtual v => av_c3 182 v l
  | .invokespecial v => av_c3 183 v l
  | .invokestatic v => av_c3 184 v l
  | .new v => av_c3 187 v l
  | .goto v => av_c3s 167 v l
  | .ifnull v => av_c3s 198 v l
  | .ifnonnull v => av_c3s 199 v l
  | .bipush v => av_c2s 16 v l
  | .sipush v => av_c3s 17 v l
  | .iinc v w => av_c3i 132 v w l
  | .ifCond c v => av_c3s (153 + av_co c) v l
  | .if_icmp c v => av_c3s (159 + av_co c) v l
  | _ => decide (decode cc pc = .ok (x.1, av_len x))
set_option maxHeartbeats 2000000 in
theorem av_ck_ok {x : av_E} (hl : (av_by cc).drop pc = l) (h : av_ck cc pc x l = true) : decode cc pc = .ok (x.1, av_len x) := by
  obtain ⟨ins, ln, xa, xb, xc, xk⟩ := x
  cases ins with
  | aload_n n => exact av_s1 hl h (av_k_al n)
  | iload_n n => exact av_s1 hl h (av_k_il n)
  | istore_n n => exact av_s1 hl h (av_k_is n)
  | iconst v =>
    obtain ⟨h1, h2⟩ := (Bool.and_eq_true _ _).mp (show ((decide (-1 ≤ v) && decide (v ≤ 5)) && av_c1 (v + 3).toNat l) = true from h)
    exact av_s1 hl h2 (av_k_ic h1)
  | aconst_null => exact av_s1 (k := 1) hl h (fun s => rfl)
  | iaload => exact av_s1 (k := 46) hl h (fun s => rfl)
  | aaload => exact av_s1 (k := 50) hl h (fun s => rfl)
  | baload => exact av_s1 (k := 51) hl h (fun s => rfl)
  | iastore => exact av_s1 (k := 79) hl h (fun s => rfl)
  | aastore => exact av_s1 (k := 83) hl h (fun s => rfl)
  | bastore => exact av_s1 (k := 84) hl h (fun s => rfl)
  | pop => exact av_s1 (k := 87) hl h (fun s => rfl)
  | dup => exact av_s1 (k := 89) hl h (fun s => rfl)
  | iadd => exact av_s1 (k := 96) hl h (fun s => rfl)
  | isub => exact av_s1 (k := 100) hl h (fun s => rfl)
  | imul => exact av_s1 (k := 104) hl h (fun s => rfl)
  | ishl => exact av_s1 (k := 120) hl h (fun s => rfl)
  | ishr => exact av_s1 (k := 122) hl h (fun s => rfl)
  | iushr => exact av_s1 (k := 124) hl h (fun s => rfl)
  | iand => exact av_s1 (k := 126) hl h (fun s => rfl)
  | ior => exact av_s1 (k := 128) hl h (fun s => rfl)
  | ireturn => exact av_s1 (k := 172) hl h (fun s => rfl)
  | return_ => exact av_s1 (k := 177) hl h (fun s => rfl)
  | areturn => exact av_s1 (k := 176) hl h (fun s => rfl)
  | arraylength => exact av_s1 (k := 190) hl h (fun s => rfl)
  | lcmp => exact av_s1 (k := 148) hl h (fun s => rfl)
  | iload v => exact av_s2 (k := 21) (f := Instr.iload) hl h rfl
  | aload v => exact av_s2 (k := 25) (f := Instr.aload) hl h rfl
  | istore v => exact av_s2 (k := 54) (f := Instr.istore) hl h rfl
  | astore v => exact av_s2 (k := 58) (f := Instr.astore) hl h rfl
  | ldc v => exact av_s2 (k := 18) (f := Instr.ldc) hl h rfl
  | ldc2_w v => exact av_s3 (k := 20) (f := Instr.ldc2_w) hl h rfl
  | getfield v => exact av_s3 (k := 180) (f := Instr.getfield) hl h rfl
  | putfield v => exact av_s3 (k := 181) (f := Instr.putfield) hl h rfl
  | invokevirtual v => exact av_s3 (k := 182) (f := Instr.invokevirtual) hl h rfl
  | invokespecial v => exact av_s3 (k := 183) (f := Instr.invokespecial) hl h rfl
  | invokestatic v => exact av_s3 (k := 184) (f := Instr.invokestatic) hl h rfl
  | new v => exact av_s3 (k := 187) (f := Instr.new) hl h rfl
  | goto v => exact av_s3s (k := 167) (f := Instr.goto) hl h rfl
  | ifnull v => exact av_s3s (k := 198) (f := Instr.ifnull) hl h rfl
  | ifnonnull v => exact av_s3s (k := 199) (f := Instr.ifnonnull) hl h rfl
  | bipush v => exact av_s2s (k := 16) (f := Instr.bipush) hl h rfl
  | sipush v => exact av_s3s (k := 17) (f := Instr.sipush) hl h rfl
  | iinc v w => exact av_s3i (k := 132) (f := Instr.iinc) hl h rfl
  | ifCond c v => exact av_s3s (f := Instr.ifCond c) hl h (av_k_if c)
  | if_icmp c v => exact av_s3s (f := Instr.if_icmp c) hl h (av_k_ii c)
  | _ => exact of_decide_eq_true h
def av_gk (cc : ByteArray) : List (Nat × av_E) → Nat → List UInt8 → Bool
  | [], _, _ => true
  | q :: r, p, l => Nat.ble p q.1 && (av_ck cc q.1 q.2 (l.drop (q.1 - p)) && av_gk cc r q.1 (l.drop (q.1 - p)))
theorem av_gk_ok : ∀ (es : List (Nat × av_E)) (p : Nat) (l : List UInt8), (av_by cc).drop p = l → av_gk cc es p l = true → ∀ q ∈ es, decode cc q.1 = .ok (q.2.1, av_len q.2) := by
  intro es
  induction es with
  | nil => intro p l _ _ q hq; cases hq
  | cons x es ih =>
    intro p l hl h q hq
    have h : (Nat.ble p x.1 && (av_ck cc x.1 x.2 (l.drop (x.1 - p)) && av_gk cc es x.1 (l.drop (x.1 - p)))) = true := h
    obtain ⟨h1, h0⟩ := (Bool.and_eq_true _ _).mp h
    obtain ⟨h2, h3⟩ := (Bool.and_eq_true _ _).mp h0
    have e := Nat.le_of_ble_eq_true h1
    have hl2 : (av_by cc).drop x.1 = l.drop (x.1 - p) := by
      rw [← hl, av_drd]
      exact congrArg (fun n => (av_by cc).drop n) (by omega)
    rcases List.mem_cons.mp hq with z | z
    · rw [z]
      exact av_ck_ok hl2 h2
    · exact ih _ _ hl2 h3 q z
end
/-! THE CHECK OF AN ENTRY -/
def av_okB (own : Nat) (ini : Bool) (fr lo pc : Nat) (x : av_E) : Bool := (match x.1 with
  | .bipush n => decide ((Int8.ofInt n).toInt32 = Int32.ofInt n)
  | .sipush n => decide ((Int16.ofInt n).toInt32 = Int32.ofInt n)
  | .ldc idx => (decide (x.2.2.1 = 0) && decide ((own, idx, x.2.2.2.2.2) ∈ av_KT)) || (decide (¬ x.2.2.1 = 0) && av_strs.any (fun q => decide (q.1 = own) && decide (q.2.1 = idx) && decide (q.2.2.1 = x.2.2.2.1)))
  | .ldc_w idx => decide ((own, idx, x.2.2.2.2.2) ∈ av_KT)
  | .ldc2_w idx => decide ((own, idx, x.2.2.2.2.2) ∈ av_JT)
  | .goto off => decide ((pc : Int) + off = (x.2.2.1 : Int))
  | .ifCond _ off => decide ((pc : Int) + off = (x.2.2.1 : Int))
  | .if_icmp _ off => decide ((pc : Int) + off = (x.2.2.1 : Int))
  | .ifnull off => decide ((pc : Int) + off = (x.2.2.1 : Int))
  | .ifnonnull off => decide ((pc : Int) + off = (x.2.2.1 : Int))
  | .tableswitch d low high offs => decide (0 ≤ (pc : Int) + d) && offs.toList.all (fun q => decide (0 ≤ (pc : Int) + q)) && decide (high - low < offs.toList.length)
  | .lookupswitch d ps => (ps.toList.zip (ps.toList.drop 1)).all (fun (a, next) => a.1 < next.1) && decide (0 ≤ (pc : Int) + d) && ps.toList.all (fun q => decide (0 ≤ (pc : Int) + q.2))
  | .getfield idx => decide (x.2.2.1 < 9) && decide (x.2.2.2.1 < av_N x.2.2.1) && decide (x.2.2.2.2.1 = av_tg (av_ty x.2.2.1 x.2.2.2.1)) && (decide ((own, idx, x.2.2.1, x.2.2.2.1) ∈ av_FT0) || decide ((own, idx, x.2.2.1, x.2.2.2.1) ∈ av_FT1))
  | .putfield idx => decide (x.2.2.1 < 9) && decide (x.2.2.2.1 < av_N x.2.2.1) && decide (x.2.2.2.2.1 = av_tg (av_ty x.2.2.1 x.2.2.2.1)) && (decide (¬ x.2.2.2.2.1 = 0) || decide (av_ty x.2.2.1 x.2.2.2.1 = .int)) && (decide ((own, idx, x.2.2.1, x.2.2.2.1) ∈ av_FT0) || decide ((own, idx, x.2.2.1, x.2.2.2.1) ∈ av_FT1)) &&
    (decide ((av_T x.2.2.1 x.2.2.2.1).2.2.2 = false) || (decide (own = x.2.2.1) && decide ((av_T x.2.2.1 x.2.2.2.1).1 = av_cn x.2.2.1) && decide (ini = true) && decide ((own, idx, x.2.2.1, x.2.2.2.1) ∈ av_FT0)))
  | .getstatic idx => decide ((own, idx) ∈ av_GT)
  | .newarray t => (match t with
    | .int => true
    | .byte => true
    | .boolean => true
    | _ => false)
  | .anewarray idx => decide ((own, idx, x.2.2.1) ∈ av_AT)
  | .multianewarray idx d => decide (d = 2) && decide ((own, idx) ∈ av_NT)
  | .new idx => decide (x.2.2.1 < 9) && decide ((own, idx, x.2.2.1) ∈ av_CT)
  | .checkcast idx => decide ((own, idx) ∈ av_XT)
  | .invokespecial idx => decide (x.2.2.1 < 1000) || (decide (x.2.2.1 = 1000) && decide ((own, 1000, idx) ∈ av_IT) && decide (1 ≤ fr) && decide (40 ≤ lo))
  | .invokestatic idx => decide (x.2.2.1 < 1000) || ((decide (x.2.2.1 = 1001) || decide (x.2.2.1 = 1002) || decide (x.2.2.1 = 1003)) && decide ((own, x.2.2.1, idx) ∈ av_IT) && decide (1 ≤ fr) && decide (40 ≤ lo))
  | .invokevirtual idx => decide (x.2.2.1 < 1000) || ((decide (x.2.2.1 = 1004) || decide (x.2.2.1 = 1005) || decide (x.2.2.1 = 1006)) && decide ((own, x.2.2.1, idx) ∈ av_IT) && decide (4 ≤ fr) && decide (120 ≤ lo))
  | _ => true)
theorem av_FTs {own idx ci k : Nat} (h : (own, idx, ci, k) ∈ av_FT0 ∨ (own, idx, ci, k) ∈ av_FT1) : av_FL own idx ci k := by
  rcases h with h | h
  · exact Or.inl (av_FT0_ok _ h)
  · exact Or.inr ⟨_, av_FT1_ok _ h⟩
set_option maxHeartbeats 2000000 in
theorem av_okB_ok {own : Nat} {cc : ByteArray} {ini : Bool} {fr lo pc : Nat} {x : av_E} (hd : decode cc pc = .ok (x.1, av_len x)) (h : av_okB own ini fr lo pc x = true) : av_ok own cc ini fr lo pc x := by
  obtain ⟨ins, ln, xa, xb, xc, xk⟩ := x
  unfold av_okB at h
  refine ⟨hd, ?_⟩
  cases ins with
  | ldc idx =>
    simp only [Bool.or_eq_true, Bool.and_eq_true, decide_eq_true_eq, List.any_eq_true] at h
    rcases h with ⟨h1, h2⟩ | ⟨h1, q, hq, ⟨e1, e2⟩, e3⟩
    · exact Or.inl ⟨h1, av_KT_ok _ h2⟩
    · obtain ⟨q1, q2, q3, q4⟩ := q
      dsimp only at e1 e2 e3
      subst e1; subst e2; subst e3
      exact Or.inr ⟨h1, q4, hq⟩
  | ldc_w idx => exact av_KT_ok _ (of_decide_eq_true h)
  | ldc2_w idx => exact av_JT_ok _ (of_decide_eq_true h)
  | getfield idx =>
    simp only [Bool.or_eq_true, Bool.and_eq_true, decide_eq_true_eq] at h
    exact ⟨h.1.1.1, h.1.1.2, h.1.2, av_FTs h.2⟩
  | putfield idx =>
    simp only [Bool.or_eq_true, Bool.and_eq_true, decide_eq_true_eq] at h
    obtain ⟨⟨⟨⟨⟨h1, h2⟩, h3⟩, h4⟩, h5⟩, h6⟩ := h
    refine ⟨h1, h2, h3, fun q => ?_, av_FTs h5, ?_⟩
    · rcases h4 with h4 | h4
      · exact absurd q h4
      · exact h4
    · rcases h6 with h6 | ⟨⟨⟨h6, h7⟩, h8⟩, h9⟩
      · exact Or.inl h6
      · exact Or.inr ⟨h6, h7, h8, av_FT0_ok _ h9⟩
  | getstatic idx => exact ⟨_, av_GT_ok _ (of_decide_eq_true h)⟩
  | newarray t =>
    cases t with
    | int => exact av_f_acI
    | byte => exact av_f_ac_byte
    | boolean => exact av_f_ac_boolean
    | _ => cases h
  | anewarray idx => exact av_AT_ok _ (of_decide_eq_true h)
  | multianewarray idx d =>
    simp only [Bool.and_eq_true, decide_eq_true_eq] at h
    exact ⟨h.1, av_NT_ok _ h.2⟩
  | new idx =>
    simp only [Bool.and_eq_true, decide_eq_true_eq] at h
    exact ⟨h.1, av_CT_ok _ h.2⟩
  | checkcast idx => exact av_XT_ok _ (of_decide_eq_true h)
  | invokespecial idx =>
    simp only [Bool.or_eq_true, Bool.and_eq_true, decide_eq_true_eq] at h
    intro hk
    rcases h with h | ⟨⟨⟨h1, h2⟩, h3⟩, h4⟩
    · have hk : 1000 ≤ xa := hk
      omega
    · exact ⟨h1, av_IT_ok _ h2, h3, h4⟩
  | invokestatic idx =>
    simp only [Bool.or_eq_true, Bool.and_eq_true, decide_eq_true_eq] at h
    intro hk
    rcases h with h | ⟨⟨⟨h1, h2⟩, h3⟩, h4⟩
    · have hk : 1000 ≤ xa := hk
      omega
    · exact ⟨or_assoc.mp h1, av_IT_ok _ h2, h3, h4⟩
  | invokevirtual idx =>
    simp only [Bool.or_eq_true, Bool.and_eq_true, decide_eq_true_eq] at h
    intro hk
    rcases h with h | ⟨⟨⟨h1, h2⟩, h3⟩, h4⟩
    · have hk : 1000 ≤ xa := hk
      omega
    · exact ⟨or_assoc.mp h1, av_IT_ok _ h2, h3, h4⟩
  | tableswitch d low high offs =>
    simp only [Bool.and_eq_true, decide_eq_true_eq, List.all_eq_true] at h
    exact ⟨h.1.1, h.1.2, h.2⟩
  | lookupswitch d ps =>
    rw [Bool.and_eq_true, Bool.and_eq_true] at h
    refine ⟨h.1.1, of_decide_eq_true h.1.2, fun q hq => ?_⟩
    have := List.all_eq_true.mp h.2 q hq
    exact of_decide_eq_true this
  | bipush n => exact of_decide_eq_true h
  | sipush n => exact of_decide_eq_true h
  | goto off => exact of_decide_eq_true h
  | ifCond c off => exact of_decide_eq_true h
  | if_icmp c off => exact of_decide_eq_true h
  | ifnull off => exact of_decide_eq_true h
  | ifnonnull off => exact of_decide_eq_true h
  | _ => trivial
def av_rokB (rt : Option FieldType) (x : av_E) : Bool := match x.1 with
  | .return_ => decide (rt = none)
  | .ireturn => (decide (x.2.2.1 = 0) && decide (rt = some .int)) || (decide (x.2.2.1 = 1) && decide (rt = some .boolean))
  | .areturn => (match rt with
    | some (.object _) => true
    | some (.array _) => true
    | _ => false)
  | _ => true
theorem av_rokB_ok {rt : Option FieldType} {x : av_E} (h : av_rokB rt x = true) : av_rok rt x := by
  obtain ⟨ins, ln, xa, xb, xc, xk⟩ := x
  unfold av_rokB at h
  cases ins with
  | return_ => exact (of_decide_eq_true (p := rt = none) h)
  | ireturn =>
    simp only [Bool.or_eq_true, Bool.and_eq_true, decide_eq_true_eq] at h
    exact h
  | areturn =>
    dsimp only at h
    split at h
    · next n => exact ⟨_, rfl, Or.inl ⟨n, rfl⟩⟩
    · next n => exact ⟨_, rfl, Or.inr ⟨n, rfl⟩⟩
    · cases h
  | _ => trivial
def av_cokB (own fr lo : Nat) (x : av_E) : Bool := match av_TT x.2.2.1 with
  | none => false
  | some r => decide (r.2.2.2.2.2.1 = x.2.2.2.2.1) && decide (r.2.2.2.2.2.2.1 = x.2.2.2.1) && decide ((r.1 : Int) = x.2.2.2.2.2) && decide (r.2.2.2.2.2.2.2.1 + 1 ≤ fr) && decide (8 + (r.2.2.2.1 + 11) + r.2.2.2.2.2.2.2.2.1 ≤ lo) && (match x.1 with
    | .invokevirtual idx => decide (x.2.2.2.2.1 = 0) && decide ((own, idx, x.2.2.1) ∈ av_ML0)
    | .invokespecial idx => decide (x.2.2.2.2.1 = 1) && (decide ((own, idx, x.2.2.1) ∈ av_ML0) || decide ((own, idx, x.2.2.1) ∈ av_ML1))
    | .invokestatic idx => decide (x.2.2.2.2.1 = 2) && decide ((own, idx, x.2.2.1) ∈ av_ML0)
    | _ => true)
theorem av_cokB_ok {own fr lo : Nat} {x : av_E} (h : av_cokB own fr lo x = true) : av_cok av_TT own fr lo x := by
  unfold av_cokB at h
  split at h
  · cases h
  · next r hr =>
    simp only [Bool.and_eq_true, decide_eq_true_eq] at h
    obtain ⟨⟨⟨⟨⟨h1, h2⟩, h3⟩, h4⟩, h5⟩, h6⟩ := h
    have m0 : ∀ idx, (own, idx, x.2.2.1) ∈ av_ML0 → Cond.methodLink (av_cn own) idx r.2.1 ∈ lw_tbl := by
      intro idx hm
      obtain ⟨r', e1, e2⟩ := av_ML0_ok _ hm
      cases hr.symm.trans e1
      exact e2
    have m1 : ∀ idx, (own, idx, x.2.2.1) ∈ av_ML1 → Cond.methodLinkNest (av_cn own) idx r.2.1 "CrossingWords" ∈ lw_tbl := by
      intro idx hm
      obtain ⟨r', e1, e2⟩ := av_ML1_ok _ hm
      cases hr.symm.trans e1
      exact e2
    refine ⟨r, hr, h1, h2, h3, h4, h5, ?_⟩
    obtain ⟨ins, ln, xa, xb, xc, xk⟩ := x
    cases ins with
    | invokevirtual idx =>
      simp only [Bool.and_eq_true, decide_eq_true_eq] at h6
      exact ⟨h6.1, m0 idx h6.2⟩
    | invokespecial idx =>
      simp only [Bool.and_eq_true, Bool.or_eq_true, decide_eq_true_eq] at h6
      refine ⟨h6.1, ?_⟩
      rcases h6.2 with q | q
      · exact Or.inl (m0 idx q)
      · exact Or.inr ⟨_, m1 idx q⟩
    | invokestatic idx =>
      simp only [Bool.and_eq_true, decide_eq_true_eq] at h6
      exact ⟨h6.1, m0 idx h6.2⟩
    | _ => trivial
def av_dokC (r : av_Mr) (es : List (Nat × av_E)) (p : Nat) : Bool := av_gk r.2.2.1 es p ((av_by r.2.2.1).drop p) && es.all (fun q => av_okB r.1 (decide (r.2.2.2.2.2.1 = 1)) r.2.2.2.2.2.2.2.1 r.2.2.2.2.2.2.2.2.1 q.1 q.2 && av_rokB r.2.2.2.2.1 q.2 && (if av_kd q.2 = 2 then av_cokB r.1 r.2.2.2.2.2.2.2.1 r.2.2.2.2.2.2.2.2.1 q.2 else true))
theorem av_dokC_ok {r : av_Mr} {es : List (Nat × av_E)} {p : Nat} (h : av_dokC r es p = true) : ∀ q ∈ es, av_ok r.1 r.2.2.1 (decide (r.2.2.2.2.2.1 = 1)) r.2.2.2.2.2.2.2.1 r.2.2.2.2.2.2.2.2.1 q.1 q.2 ∧ av_rok r.2.2.2.2.1 q.2 ∧ (av_kd q.2 = 2 → av_cok av_TT r.1 r.2.2.2.2.2.2.2.1 r.2.2.2.2.2.2.2.2.1 q.2) := by
  intro q hq
  obtain ⟨g1, g2⟩ := (Bool.and_eq_true _ _).mp h
  have h1 := List.all_eq_true.mp g2 q hq
  simp only [Bool.and_eq_true] at h1
  refine ⟨av_okB_ok (av_gk_ok es p _ rfl g1 q hq) h1.1.1, av_rokB_ok h1.1.2, fun hk => av_cokB_ok ?_⟩
  have h2 := h1.2
  rw [if_pos hk] at h2
  exact h2
theorem av_dokB_ok {r : av_Mr} (h : av_dokC r r.2.2.2.2.2.2.2.2.2 0 = true) : av_dok av_TT r := av_dokC_ok h
