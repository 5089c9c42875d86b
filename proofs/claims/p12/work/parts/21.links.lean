/-! THE TABLE HOLDS: links -/
def av_FT0_0 : List (Nat × Nat × Nat × Nat) := [(0, 9, 0, 0), (0, 15, 0, 1), (0, 18, 0, 2), (0, 22, 0, 3), (0, 25, 0, 4), (0, 28, 0, 5), (0, 31, 0, 6), (0, 34, 0, 7), (0, 37, 0, 8), (0, 40, 0, 9), (0, 43, 0, 10), (0, 46, 0, 11), (0, 49, 0, 13), (0, 53, 0, 14), (0, 56, 0, 15), (0, 59, 0, 12), (1, 15, 1, 0), (1, 21, 1, 1), (1, 34, 1, 2), (1, 37, 1, 3), (2, 9, 2, 1), (2, 15, 2, 2), (2, 19, 2, 0), (3, 11, 3, 4), (3, 15, 3, 5), (3, 19, 3, 6), (3, 22, 3, 7), (3, 25, 3, 8), (3, 28, 3, 9), (3, 32, 3, 10), (3, 40, 3, 0), (3, 49, 3, 1), (3, 53, 3, 2), (3, 56, 3, 3), (4, 9, 4, 1), (4, 15, 4, 0), (5, 11, 5, 0), (5, 19, 5, 1), (5, 22, 5, 2), (5, 25, 5, 3)]
set_option maxRecDepth 100000 in
set_option maxHeartbeats 2000000 in
theorem av_FT0_0_ok : ∀ e ∈ av_FT0_0, Cond.fieldLink (av_cn e.1) e.2.1 (av_T e.2.2.1 e.2.2.2).1 (av_T e.2.2.1 e.2.2.2).2.1 (av_T e.2.2.1 e.2.2.2).2.2.1 ∈ lw_tbl := List.forall_mem_cons.mpr ⟨av_mem (i := 189) rfl, List.forall_mem_cons.mpr ⟨av_mem (i := 190) rfl, List.forall_mem_cons.mpr ⟨av_mem (i := 191) rfl, List.forall_mem_cons.mpr ⟨av_mem (i := 192) rfl, List.forall_mem_cons.mpr ⟨av_mem (i := 193) rfl, List.forall_mem_cons.mpr ⟨av_mem (i := 194) rfl, List.forall_mem_cons.mpr ⟨av_mem (i := 196) rfl, List.forall_mem_cons.mpr ⟨av_mem (i := 198) rfl, List.forall_mem_cons.mpr ⟨av_mem (i := 200) rfl, List.forall_mem_cons.mpr ⟨av_mem (i := 201) rfl, List.forall_mem_cons.mpr ⟨av_mem (i := 202) rfl, List.forall_mem_cons.mpr ⟨av_mem (i := 203) rfl, List.forall_mem_cons.mpr ⟨av_mem (i := 207) rfl, List.forall_mem_cons.mpr ⟨av_mem (i := 209) rfl, List.forall_mem_cons.mpr ⟨av_mem (i := 211) rfl, List.forall_mem_cons.mpr ⟨av_mem (i := 204) rfl, List.forall_mem_cons.mpr ⟨av_mem (i := 159) rfl, List.forall_mem_cons.mpr ⟨av_mem (i := 162) rfl, List.forall_mem_cons.mpr ⟨av_mem (i := 168) rfl, List.forall_mem_cons.mpr ⟨av_mem (i := 170) rfl, List.forall_mem_cons.mpr ⟨av_mem (i := 104) rfl, List.forall_mem_cons.mpr ⟨av_mem (i := 105) rfl, List.forall_mem_cons.mpr ⟨av_mem (i := 103) rfl, List.forall_mem_cons.mpr ⟨av_mem (i := 252) rfl, List.forall_mem_cons.mpr ⟨av_mem (i := 253) rfl, List.forall_mem_cons.mpr ⟨av_mem (i := 254) rfl, List.forall_mem_cons.mpr ⟨av_mem (i := 255) rfl, List.forall_mem_cons.mpr ⟨av_mem (i := 256) rfl, List.forall_mem_cons.mpr ⟨av_mem (i := 258) rfl, List.forall_mem_cons.mpr ⟨av_mem (i := 259) rfl, List.forall_mem_cons.mpr ⟨av_mem (i := 247) rfl, List.forall_mem_cons.mpr ⟨av_mem (i := 248) rfl, List.forall_mem_cons.mpr ⟨av_mem (i := 250) rfl, List.forall_mem_cons.mpr ⟨av_mem (i := 251) rfl, List.forall_mem_cons.mpr ⟨av_mem (i := 120) rfl, List.forall_mem_cons.mpr ⟨av_mem (i := 119) rfl, List.forall_mem_cons.mpr ⟨av_mem (i := 69) rfl, List.forall_mem_cons.mpr ⟨av_mem (i := 71) rfl, List.forall_mem_cons.mpr ⟨av_mem (i := 74) rfl, List.forall_mem_cons.mpr ⟨av_mem (i := 75) rfl, fun _ h => absurd h List.not_mem_nil⟩⟩⟩⟩⟩⟩⟩⟩⟩⟩⟩⟩⟩⟩⟩⟩⟩⟩⟩⟩⟩⟩⟩⟩⟩⟩⟩⟩⟩⟩⟩⟩⟩⟩⟩⟩⟩⟩⟩⟩
def av_FT0_1 : List (Nat × Nat × Nat × Nat) := [(5, 29, 5, 4), (5, 32, 5, 5), (6, 11, 6, 0), (6, 15, 6, 1), (6, 19, 6, 2), (6, 22, 6, 3), (6, 25, 6, 4), (6, 28, 6, 5), (6, 31, 6, 6), (7, 10, 7, 0), (7, 19, 7, 1), (7, 23, 7, 2), (7, 32, 7, 3), (7, 39, 7, 4), (7, 48, 7, 5), (7, 57, 7, 6), (7, 61, 7, 7), (7, 65, 7, 8), (8, 7, 8, 0), (8, 13, 8, 1), (8, 16, 8, 2), (8, 19, 8, 3), (8, 22, 8, 4), (8, 25, 8, 5), (8, 28, 8, 6), (8, 31, 8, 7), (8, 34, 8, 8), (8, 37, 8, 9), (8, 40, 8, 10), (8, 43, 8, 11), (8, 46, 8, 12), (8, 49, 8, 13), (8, 52, 8, 14), (8, 55, 8, 15), (8, 58, 8, 16), (8, 62, 8, 18), (8, 66, 8, 26), (8, 69, 8, 30), (8, 72, 8, 31), (8, 75, 8, 32)]
set_option maxRecDepth 100000 in
set_option maxHeartbeats 2000000 in
theorem av_FT0_1_ok : ∀ e ∈ av_FT0_1, Cond.fieldLink (av_cn e.1) e.2.1 (av_T e.2.2.1 e.2.2.2).1 (av_T e.2.2.1 e.2.2.2).2.1 (av_T e.2.2.1 e.2.2.2).2.2.1 ∈ lw_tbl := List.forall_mem_cons.mpr ⟨av_mem (i := 77) rfl, List.forall_mem_cons.mpr ⟨av_mem (i := 80) rfl, List.forall_mem_cons.mpr ⟨av_mem (i := 32) rfl, List.forall_mem_cons.mpr ⟨av_mem (i := 33) rfl, List.forall_mem_cons.mpr ⟨av_mem (i := 35) rfl, List.forall_mem_cons.mpr ⟨av_mem (i := 36) rfl, List.forall_mem_cons.mpr ⟨av_mem (i := 37) rfl, List.forall_mem_cons.mpr ⟨av_mem (i := 38) rfl, List.forall_mem_cons.mpr ⟨av_mem (i := 39) rfl, List.forall_mem_cons.mpr ⟨av_mem (i := 285) rfl, List.forall_mem_cons.mpr ⟨av_mem (i := 286) rfl, List.forall_mem_cons.mpr ⟨av_mem (i := 287) rfl, List.forall_mem_cons.mpr ⟨av_mem (i := 288) rfl, List.forall_mem_cons.mpr ⟨av_mem (i := 289) rfl, List.forall_mem_cons.mpr ⟨av_mem (i := 290) rfl, List.forall_mem_cons.mpr ⟨av_mem (i := 291) rfl, List.forall_mem_cons.mpr ⟨av_mem (i := 292) rfl, List.forall_mem_cons.mpr ⟨av_mem (i := 293) rfl, List.forall_mem_cons.mpr ⟨av_mem (i := 914) rfl, List.forall_mem_cons.mpr ⟨av_mem (i := 915) rfl, List.forall_mem_cons.mpr ⟨av_mem (i := 916) rfl, List.forall_mem_cons.mpr ⟨av_mem (i := 917) rfl, List.forall_mem_cons.mpr ⟨av_mem (i := 918) rfl, List.forall_mem_cons.mpr ⟨av_mem (i := 919) rfl, List.forall_mem_cons.mpr ⟨av_mem (i := 920) rfl, List.forall_mem_cons.mpr ⟨av_mem (i := 921) rfl, List.forall_mem_cons.mpr ⟨av_mem (i := 922) rfl, List.forall_mem_cons.mpr ⟨av_mem (i := 923) rfl, List.forall_mem_cons.mpr ⟨av_mem (i := 924) rfl, List.forall_mem_cons.mpr ⟨av_mem (i := 925) rfl, List.forall_mem_cons.mpr ⟨av_mem (i := 926) rfl, List.forall_mem_cons.mpr ⟨av_mem (i := 927) rfl, List.forall_mem_cons.mpr ⟨av_mem (i := 928) rfl, List.forall_mem_cons.mpr ⟨av_mem (i := 929) rfl, List.forall_mem_cons.mpr ⟨av_mem (i := 930) rfl, List.forall_mem_cons.mpr ⟨av_mem (i := 932) rfl, List.forall_mem_cons.mpr ⟨av_mem (i := 940) rfl, List.forall_mem_cons.mpr ⟨av_mem (i := 944) rfl, List.forall_mem_cons.mpr ⟨av_mem (i := 945) rfl, List.forall_mem_cons.mpr ⟨av_mem (i := 946) rfl, fun _ h => absurd h List.not_mem_nil⟩⟩⟩⟩⟩⟩⟩⟩⟩⟩⟩⟩⟩⟩⟩⟩⟩⟩⟩⟩⟩⟩⟩⟩⟩⟩⟩⟩⟩⟩⟩⟩⟩⟩⟩⟩⟩⟩⟩⟩
def av_FT0_2 : List (Nat × Nat × Nat × Nat) := [(8, 78, 8, 33), (8, 81, 8, 34), (8, 84, 8, 35), (8, 87, 8, 36), (8, 90, 8, 37), (8, 94, 8, 38), (8, 97, 8, 39), (8, 100, 8, 40), (8, 103, 8, 41), (8, 106, 8, 42), (8, 109, 8, 43), (8, 112, 8, 44), (8, 115, 8, 45), (8, 118, 8, 46), (8, 121, 8, 47), (8, 124, 8, 48), (8, 127, 8, 49), (8, 130, 8, 54), (8, 133, 8, 55), (8, 136, 8, 56), (8, 139, 8, 57), (8, 142, 8, 58), (8, 145, 8, 59), (8, 148, 8, 17), (8, 151, 8, 20), (8, 154, 8, 19), (8, 161, 8, 21), (8, 166, 8, 24), (8, 170, 8, 23), (8, 173, 8, 22), (8, 183, 8, 25), (8, 351, 8, 27), (8, 354, 8, 28), (8, 357, 8, 29), (8, 381, 8, 50), (8, 384, 8, 53), (8, 387, 8, 51), (8, 390, 8, 52), (8, 461, 8, 60), (8, 464, 8, 61)]
set_option maxRecDepth 100000 in
set_option maxHeartbeats 2000000 in
theorem av_FT0_2_ok : ∀ e ∈ av_FT0_2, Cond.fieldLink (av_cn e.1) e.2.1 (av_T e.2.2.1 e.2.2.2).1 (av_T e.2.2.1 e.2.2.2).2.1 (av_T e.2.2.1 e.2.2.2).2.2.1 ∈ lw_tbl := List.forall_mem_cons.mpr ⟨av_mem (i := 947) rfl, List.forall_mem_cons.mpr ⟨av_mem (i := 948) rfl, List.forall_mem_cons.mpr ⟨av_mem (i := 949) rfl, List.forall_mem_cons.mpr ⟨av_mem (i := 950) rfl, List.forall_mem_cons.mpr ⟨av_mem (i := 951) rfl, List.forall_mem_cons.mpr ⟨av_mem (i := 952) rfl, List.forall_mem_cons.mpr ⟨av_mem (i := 953) rfl, List.forall_mem_cons.mpr ⟨av_mem (i := 954) rfl, List.forall_mem_cons.mpr ⟨av_mem (i := 955) rfl, List.forall_mem_cons.mpr ⟨av_mem (i := 956) rfl, List.forall_mem_cons.mpr ⟨av_mem (i := 957) rfl, List.forall_mem_cons.mpr ⟨av_mem (i := 958) rfl, List.forall_mem_cons.mpr ⟨av_mem (i := 959) rfl, List.forall_mem_cons.mpr ⟨av_mem (i := 960) rfl, List.forall_mem_cons.mpr ⟨av_mem (i := 961) rfl, List.forall_mem_cons.mpr ⟨av_mem (i := 962) rfl, List.forall_mem_cons.mpr ⟨av_mem (i := 963) rfl, List.forall_mem_cons.mpr ⟨av_mem (i := 968) rfl, List.forall_mem_cons.mpr ⟨av_mem (i := 969) rfl, List.forall_mem_cons.mpr ⟨av_mem (i := 970) rfl, List.forall_mem_cons.mpr ⟨av_mem (i := 971) rfl, List.forall_mem_cons.mpr ⟨av_mem (i := 972) rfl, List.forall_mem_cons.mpr ⟨av_mem (i := 973) rfl, List.forall_mem_cons.mpr ⟨av_mem (i := 931) rfl, List.forall_mem_cons.mpr ⟨av_mem (i := 934) rfl, List.forall_mem_cons.mpr ⟨av_mem (i := 933) rfl, List.forall_mem_cons.mpr ⟨av_mem (i := 935) rfl, List.forall_mem_cons.mpr ⟨av_mem (i := 938) rfl, List.forall_mem_cons.mpr ⟨av_mem (i := 937) rfl, List.forall_mem_cons.mpr ⟨av_mem (i := 936) rfl, List.forall_mem_cons.mpr ⟨av_mem (i := 939) rfl, List.forall_mem_cons.mpr ⟨av_mem (i := 941) rfl, List.forall_mem_cons.mpr ⟨av_mem (i := 942) rfl, List.forall_mem_cons.mpr ⟨av_mem (i := 943) rfl, List.forall_mem_cons.mpr ⟨av_mem (i := 964) rfl, List.forall_mem_cons.mpr ⟨av_mem (i := 967) rfl, List.forall_mem_cons.mpr ⟨av_mem (i := 965) rfl, List.forall_mem_cons.mpr ⟨av_mem (i := 966) rfl, List.forall_mem_cons.mpr ⟨av_mem (i := 974) rfl, List.forall_mem_cons.mpr ⟨av_mem (i := 975) rfl, fun _ h => absurd h List.not_mem_nil⟩⟩⟩⟩⟩⟩⟩⟩⟩⟩⟩⟩⟩⟩⟩⟩⟩⟩⟩⟩⟩⟩⟩⟩⟩⟩⟩⟩⟩⟩⟩⟩⟩⟩⟩⟩⟩⟩⟩⟩
def av_FT0_3 : List (Nat × Nat × Nat × Nat) := [(8, 482, 8, 62)]
set_option maxRecDepth 100000 in
set_option maxHeartbeats 2000000 in
theorem av_FT0_3_ok : ∀ e ∈ av_FT0_3, Cond.fieldLink (av_cn e.1) e.2.1 (av_T e.2.2.1 e.2.2.2).1 (av_T e.2.2.1 e.2.2.2).2.1 (av_T e.2.2.1 e.2.2.2).2.2.1 ∈ lw_tbl := List.forall_mem_cons.mpr ⟨av_mem (i := 976) rfl, fun _ h => absurd h List.not_mem_nil⟩
def av_FT0 : List (Nat × Nat × Nat × Nat) := av_FT0_0 ++ av_FT0_1 ++ av_FT0_2 ++ av_FT0_3
theorem av_FT0_ok : ∀ e ∈ av_FT0, Cond.fieldLink (av_cn e.1) e.2.1 (av_T e.2.2.1 e.2.2.2).1 (av_T e.2.2.1 e.2.2.2).2.1 (av_T e.2.2.1 e.2.2.2).2.2.1 ∈ lw_tbl := List.forall_mem_append.mpr ⟨List.forall_mem_append.mpr ⟨List.forall_mem_append.mpr ⟨av_FT0_0_ok, av_FT0_1_ok⟩, av_FT0_2_ok⟩, av_FT0_3_ok⟩
def av_FT1_0 : List (Nat × Nat × Nat × Nat) := [(0, 69, 1, 1), (0, 103, 1, 0), (2, 23, 1, 1), (2, 34, 1, 0), (2, 54, 6, 6), (3, 82, 1, 3), (3, 96, 5, 1), (3, 116, 1, 1), (3, 122, 0, 12), (3, 132, 0, 15), (3, 158, 5, 4), (4, 37, 6, 6), (5, 57, 1, 1), (7, 68, 6, 1), (7, 79, 5, 3), (7, 100, 5, 0), (7, 107, 1, 1), (7, 110, 5, 4), (7, 116, 4, 1), (7, 124, 5, 5), (7, 130, 6, 6), (7, 143, 1, 2), (7, 146, 1, 3), (7, 156, 5, 1), (7, 164, 3, 1), (7, 174, 0, 13), (7, 177, 0, 14), (7, 180, 0, 15), (7, 190, 0, 5), (7, 193, 0, 6), (7, 196, 0, 7), (7, 210, 3, 8), (7, 213, 0, 12)]
set_option maxRecDepth 100000 in
set_option maxHeartbeats 2000000 in
theorem av_FT1_0_ok : ∀ e ∈ av_FT1_0, Cond.fieldLinkNest (av_cn e.1) e.2.1 (av_T e.2.2.1 e.2.2.2).1 (av_T e.2.2.1 e.2.2.2).2.1 (av_T e.2.2.1 e.2.2.2).2.2.1 "CrossingWords" ∈ lw_tbl := List.forall_mem_cons.mpr ⟨av_mem (i := 164) rfl, List.forall_mem_cons.mpr ⟨av_mem (i := 161) rfl, List.forall_mem_cons.mpr ⟨av_mem (i := 163) rfl, List.forall_mem_cons.mpr ⟨av_mem (i := 160) rfl, List.forall_mem_cons.mpr ⟨av_mem (i := 41) rfl, List.forall_mem_cons.mpr ⟨av_mem (i := 171) rfl, List.forall_mem_cons.mpr ⟨av_mem (i := 72) rfl, List.forall_mem_cons.mpr ⟨av_mem (i := 167) rfl, List.forall_mem_cons.mpr ⟨av_mem (i := 205) rfl, List.forall_mem_cons.mpr ⟨av_mem (i := 212) rfl, List.forall_mem_cons.mpr ⟨av_mem (i := 79) rfl, List.forall_mem_cons.mpr ⟨av_mem (i := 40) rfl, List.forall_mem_cons.mpr ⟨av_mem (i := 166) rfl, List.forall_mem_cons.mpr ⟨av_mem (i := 34) rfl, List.forall_mem_cons.mpr ⟨av_mem (i := 76) rfl, List.forall_mem_cons.mpr ⟨av_mem (i := 70) rfl, List.forall_mem_cons.mpr ⟨av_mem (i := 165) rfl, List.forall_mem_cons.mpr ⟨av_mem (i := 78) rfl, List.forall_mem_cons.mpr ⟨av_mem (i := 121) rfl, List.forall_mem_cons.mpr ⟨av_mem (i := 81) rfl, List.forall_mem_cons.mpr ⟨av_mem (i := 42) rfl, List.forall_mem_cons.mpr ⟨av_mem (i := 169) rfl, List.forall_mem_cons.mpr ⟨av_mem (i := 172) rfl, List.forall_mem_cons.mpr ⟨av_mem (i := 73) rfl, List.forall_mem_cons.mpr ⟨av_mem (i := 249) rfl, List.forall_mem_cons.mpr ⟨av_mem (i := 208) rfl, List.forall_mem_cons.mpr ⟨av_mem (i := 210) rfl, List.forall_mem_cons.mpr ⟨av_mem (i := 213) rfl, List.forall_mem_cons.mpr ⟨av_mem (i := 195) rfl, List.forall_mem_cons.mpr ⟨av_mem (i := 197) rfl, List.forall_mem_cons.mpr ⟨av_mem (i := 199) rfl, List.forall_mem_cons.mpr ⟨av_mem (i := 257) rfl, List.forall_mem_cons.mpr ⟨av_mem (i := 206) rfl, fun _ h => absurd h List.not_mem_nil⟩⟩⟩⟩⟩⟩⟩⟩⟩⟩⟩⟩⟩⟩⟩⟩⟩⟩⟩⟩⟩⟩⟩⟩⟩⟩⟩⟩⟩⟩⟩⟩⟩
def av_FT1 : List (Nat × Nat × Nat × Nat) := av_FT1_0
theorem av_FT1_ok : ∀ e ∈ av_FT1, Cond.fieldLinkNest (av_cn e.1) e.2.1 (av_T e.2.2.1 e.2.2.2).1 (av_T e.2.2.1 e.2.2.2).2.1 (av_T e.2.2.1 e.2.2.2).2.2.1 "CrossingWords" ∈ lw_tbl := av_FT1_0_ok
def av_CT_0 : List (Nat × Nat × Nat) := [(1, 16, 1), (2, 24, 1), (3, 35, 1), (3, 44, 0), (7, 7, 6), (7, 16, 5), (7, 27, 2), (7, 36, 4), (7, 43, 3), (7, 52, 1), (9, 7, 7), (9, 10, 8)]
set_option maxRecDepth 100000 in
set_option maxHeartbeats 2000000 in
theorem av_CT_0_ok : ∀ e ∈ av_CT_0, Cond.classLink (av_cn e.1) e.2.1 (av_cn e.2.2) ∈ lw_tbl := List.forall_mem_cons.mpr ⟨av_mem (i := 871) rfl, List.forall_mem_cons.mpr ⟨av_mem (i := 489) rfl, List.forall_mem_cons.mpr ⟨av_mem (i := 133) rfl, List.forall_mem_cons.mpr ⟨av_mem (i := 183) rfl, List.forall_mem_cons.mpr ⟨av_mem (i := 26) rfl, List.forall_mem_cons.mpr ⟨av_mem (i := 59) rfl, List.forall_mem_cons.mpr ⟨av_mem (i := 97) rfl, List.forall_mem_cons.mpr ⟨av_mem (i := 113) rfl, List.forall_mem_cons.mpr ⟨av_mem (i := 127) rfl, List.forall_mem_cons.mpr ⟨av_mem (i := 283) rfl, List.forall_mem_cons.mpr ⟨av_mem (i := 18) rfl, List.forall_mem_cons.mpr ⟨av_mem (i := 908) rfl, fun _ h => absurd h List.not_mem_nil⟩⟩⟩⟩⟩⟩⟩⟩⟩⟩⟩⟩
def av_CT : List (Nat × Nat × Nat) := av_CT_0
theorem av_CT_ok : ∀ e ∈ av_CT, Cond.classLink (av_cn e.1) e.2.1 (av_cn e.2.2) ∈ lw_tbl := av_CT_0_ok
def av_IT_0 : List (Nat × Nat × Nat) := [(0, 1000, 3), (0, 1001, 106), (0, 1002, 122), (1, 1000, 3), (1, 1001, 25), (1, 1002, 31), (1, 1004, 47), (2, 1000, 3), (2, 1002, 28), (2, 1003, 35), (3, 1000, 3), (3, 1001, 140), (3, 1002, 135), (4, 1000, 3), (5, 1000, 3), (5, 1003, 39), (6, 1000, 3), (6, 1005, 45), (6, 1006, 50), (7, 1000, 1), (8, 1000, 1), (10, 1002, 304), (10, 1003, 150), (10, 1004, 316)]
set_option maxRecDepth 100000 in
set_option maxHeartbeats 2000000 in
theorem av_IT_0_ok : ∀ e ∈ av_IT_0, av_lkP e.1 e.2.1 e.2.2 := List.forall_mem_cons.mpr ⟨av_mem (i := 188) rfl, List.forall_mem_cons.mpr ⟨av_mem (i := 609) rfl, List.forall_mem_cons.mpr ⟨av_mem (i := 674) rfl, List.forall_mem_cons.mpr ⟨av_mem (i := 138) rfl, List.forall_mem_cons.mpr ⟨av_mem (i := 155) rfl, List.forall_mem_cons.mpr ⟨av_mem (i := 158) rfl, List.forall_mem_cons.mpr ⟨av_mem (i := 869) rfl, List.forall_mem_cons.mpr ⟨av_mem (i := 102) rfl, List.forall_mem_cons.mpr ⟨av_mem (i := 345) rfl, List.forall_mem_cons.mpr ⟨av_mem (i := 346) rfl, List.forall_mem_cons.mpr ⟨av_mem (i := 132) rfl, List.forall_mem_cons.mpr ⟨av_mem (i := 746) rfl, List.forall_mem_cons.mpr ⟨av_mem (i := 745) rfl, List.forall_mem_cons.mpr ⟨av_mem (i := 118) rfl, List.forall_mem_cons.mpr ⟨av_mem (i := 64) rfl, List.forall_mem_cons.mpr ⟨av_mem (i := 550) rfl, List.forall_mem_cons.mpr ⟨av_mem (i := 31) rfl, List.forall_mem_cons.mpr ⟨av_mem (i := 374) rfl, List.forall_mem_cons.mpr ⟨av_mem (i := 384) rfl, List.forall_mem_cons.mpr ⟨av_mem (i := 23) rfl, List.forall_mem_cons.mpr ⟨av_mem (i := 913) rfl, List.forall_mem_cons.mpr ⟨av_mem (i := 149) rfl, List.forall_mem_cons.mpr ⟨av_mem (i := 152) rfl, List.forall_mem_cons.mpr ⟨av_mem (i := 142) rfl, fun _ h => absurd h List.not_mem_nil⟩⟩⟩⟩⟩⟩⟩⟩⟩⟩⟩⟩⟩⟩⟩⟩⟩⟩⟩⟩⟩⟩⟩⟩
def av_IT : List (Nat × Nat × Nat) := av_IT_0
theorem av_IT_ok : ∀ e ∈ av_IT, av_lkP e.1 e.2.1 e.2.2 := av_IT_0_ok
def av_KT_0 : List (Nat × Nat × Int) := [(8, 182, (1000000)), (11, 265, (1431655765)), (11, 266, (858993459)), (11, 267, (252645135))]
set_option maxRecDepth 100000 in
set_option maxHeartbeats 2000000 in
theorem av_KT_0_ok : ∀ e ∈ av_KT_0, Cond.constant (av_cn e.1) e.2.1 (Int32.ofInt e.2.2) ∈ lw_tbl := List.forall_mem_cons.mpr ⟨av_mem (i := 1129) rfl, List.forall_mem_cons.mpr ⟨av_mem (i := 809) rfl, List.forall_mem_cons.mpr ⟨av_mem (i := 810) rfl, List.forall_mem_cons.mpr ⟨av_mem (i := 811) rfl, fun _ h => absurd h List.not_mem_nil⟩⟩⟩⟩
def av_KT : List (Nat × Nat × Int) := av_KT_0
theorem av_KT_ok : ∀ e ∈ av_KT, Cond.constant (av_cn e.1) e.2.1 (Int32.ofInt e.2.2) ∈ lw_tbl := av_KT_0_ok
def av_JT_0 : List (Nat × Nat × Int) := [(8, 164, (-1)), (8, 180, (27)), (8, 197, (3)), (8, 199, (8863997)), (8, 201, (271277)), (8, 203, (2968)), (8, 205, (326369)), (8, 207, (1905383)), (8, 209, (8094240)), (8, 211, (1253)), (8, 213, (18379)), (8, 215, (393)), (8, 217, (40187)), (8, 219, (82516)), (8, 221, (378004)), (8, 223, (326396)), (8, 225, (459761)), (8, 227, (7219835)), (8, 236, (555)), (8, 241, (47)), (8, 251, (664272)), (8, 253, (357970)), (8, 255, (247664)), (8, 276, (168727)), (8, 278, (3913421)), (8, 280, (2045)), (8, 302, (378020)), (8, 304, (70340)), (8, 306, (1065)), (8, 315, (131360)), (8, 317, (1250362)), (8, 319, (-9)), (8, 321, (6409157)), (8, 323, (7496615453)), (8, 325, (10354323)), (8, 327, (129532)), (8, 329, (3379448)), (8, 331, (237458)), (8, 333, (286880)), (8, 335, (361379))]
set_option maxRecDepth 100000 in
set_option maxHeartbeats 2000000 in
theorem av_JT_0_ok : ∀ e ∈ av_JT_0, Cond.constantLong (av_cn e.1) e.2.1 (Int64.ofInt e.2.2) ∈ lw_tbl := List.forall_mem_cons.mpr ⟨av_mem (i := 1124) rfl, List.forall_mem_cons.mpr ⟨av_mem (i := 1128) rfl, List.forall_mem_cons.mpr ⟨av_mem (i := 1157) rfl, List.forall_mem_cons.mpr ⟨av_mem (i := 1174) rfl, List.forall_mem_cons.mpr ⟨av_mem (i := 1175) rfl, List.forall_mem_cons.mpr ⟨av_mem (i := 1176) rfl, List.forall_mem_cons.mpr ⟨av_mem (i := 1177) rfl, List.forall_mem_cons.mpr ⟨av_mem (i := 1178) rfl, List.forall_mem_cons.mpr ⟨av_mem (i := 1146) rfl, List.forall_mem_cons.mpr ⟨av_mem (i := 1147) rfl, List.forall_mem_cons.mpr ⟨av_mem (i := 1148) rfl, List.forall_mem_cons.mpr ⟨av_mem (i := 1149) rfl, List.forall_mem_cons.mpr ⟨av_mem (i := 1150) rfl, List.forall_mem_cons.mpr ⟨av_mem (i := 1151) rfl, List.forall_mem_cons.mpr ⟨av_mem (i := 1152) rfl, List.forall_mem_cons.mpr ⟨av_mem (i := 1198) rfl, List.forall_mem_cons.mpr ⟨av_mem (i := 1199) rfl, List.forall_mem_cons.mpr ⟨av_mem (i := 1200) rfl, List.forall_mem_cons.mpr ⟨av_mem (i := 1210) rfl, List.forall_mem_cons.mpr ⟨av_mem (i := 1201) rfl, List.forall_mem_cons.mpr ⟨av_mem (i := 1211) rfl, List.forall_mem_cons.mpr ⟨av_mem (i := 1212) rfl, List.forall_mem_cons.mpr ⟨av_mem (i := 1213) rfl, List.forall_mem_cons.mpr ⟨av_mem (i := 1183) rfl, List.forall_mem_cons.mpr ⟨av_mem (i := 1188) rfl, List.forall_mem_cons.mpr ⟨av_mem (i := 1189) rfl, List.forall_mem_cons.mpr ⟨av_mem (i := 1247) rfl, List.forall_mem_cons.mpr ⟨av_mem (i := 1248) rfl, List.forall_mem_cons.mpr ⟨av_mem (i := 1238) rfl, List.forall_mem_cons.mpr ⟨av_mem (i := 1249) rfl, List.forall_mem_cons.mpr ⟨av_mem (i := 1250) rfl, List.forall_mem_cons.mpr ⟨av_mem (i := 1251) rfl, List.forall_mem_cons.mpr ⟨av_mem (i := 1252) rfl, List.forall_mem_cons.mpr ⟨av_mem (i := 1253) rfl, List.forall_mem_cons.mpr ⟨av_mem (i := 1254) rfl, List.forall_mem_cons.mpr ⟨av_mem (i := 1255) rfl, List.forall_mem_cons.mpr ⟨av_mem (i := 1256) rfl, List.forall_mem_cons.mpr ⟨av_mem (i := 1257) rfl, List.forall_mem_cons.mpr ⟨av_mem (i := 1258) rfl, List.forall_mem_cons.mpr ⟨av_mem (i := 1259) rfl, fun _ h => absurd h List.not_mem_nil⟩⟩⟩⟩⟩⟩⟩⟩⟩⟩⟩⟩⟩⟩⟩⟩⟩⟩⟩⟩⟩⟩⟩⟩⟩⟩⟩⟩⟩⟩⟩⟩⟩⟩⟩⟩⟩⟩⟩⟩
def av_JT_1 : List (Nat × Nat × Int) := [(8, 337, (798894590))]
set_option maxRecDepth 100000 in
set_option maxHeartbeats 2000000 in
theorem av_JT_1_ok : ∀ e ∈ av_JT_1, Cond.constantLong (av_cn e.1) e.2.1 (Int64.ofInt e.2.2) ∈ lw_tbl := List.forall_mem_cons.mpr ⟨av_mem (i := 1260) rfl, fun _ h => absurd h List.not_mem_nil⟩
def av_JT : List (Nat × Nat × Int) := av_JT_0 ++ av_JT_1
theorem av_JT_ok : ∀ e ∈ av_JT, Cond.constantLong (av_cn e.1) e.2.1 (Int64.ofInt e.2.2) ∈ lw_tbl := List.forall_mem_append.mpr ⟨av_JT_0_ok, av_JT_1_ok⟩
def av_ML0_0 : List (Nat × Nat × Nat) := [(0, 63, 220), (0, 74, 29), (0, 78, 30), (0, 84, 4), (0, 88, 7), (0, 91, 9), (0, 94, 11), (0, 97, 12), (0, 100, 14), (0, 111, 5), (0, 115, 6), (0, 118, 8), (0, 125, 10), (0, 129, 13), (0, 132, 16), (0, 136, 28), (0, 139, 31), (0, 142, 3), (0, 146, 20), (0, 150, 22), (0, 153, 25), (0, 157, 26), (0, 160, 15), (1, 9, 222), (1, 40, 28), (1, 44, 29), (1, 52, 27), (1, 55, 221), (2, 41, 84), (2, 47, 85), (2, 50, 36), (2, 57, 27), (2, 60, 221), (2, 68, 87), (2, 74, 37), (2, 77, 38), (2, 81, 40), (2, 86, 88), (2, 90, 41), (2, 93, 43)]
set_option maxRecDepth 100000 in
set_option maxHeartbeats 2000000 in
theorem av_ML0_0_ok : ∀ e ∈ av_ML0_0, ∃ r, av_TT e.2.2 = some r ∧ Cond.methodLink (av_cn e.1) e.2.1 r.2.1 ∈ lw_tbl := List.forall_mem_cons.mpr ⟨⟨ms_220, rfl, av_mem (i := 598) rfl⟩, List.forall_mem_cons.mpr ⟨⟨ms_29, rfl, av_mem (i := 599) rfl⟩, List.forall_mem_cons.mpr ⟨⟨ms_30, rfl, av_mem (i := 600) rfl⟩, List.forall_mem_cons.mpr ⟨⟨ms_4, rfl, av_mem (i := 660) rfl⟩, List.forall_mem_cons.mpr ⟨⟨ms_7, rfl, av_mem (i := 661) rfl⟩, List.forall_mem_cons.mpr ⟨⟨ms_9, rfl, av_mem (i := 670) rfl⟩, List.forall_mem_cons.mpr ⟨⟨ms_11, rfl, av_mem (i := 679) rfl⟩, List.forall_mem_cons.mpr ⟨⟨ms_12, rfl, av_mem (i := 683) rfl⟩, List.forall_mem_cons.mpr ⟨⟨ms_14, rfl, av_mem (i := 695) rfl⟩, List.forall_mem_cons.mpr ⟨⟨ms_5, rfl, av_mem (i := 610) rfl⟩, List.forall_mem_cons.mpr ⟨⟨ms_6, rfl, av_mem (i := 665) rfl⟩, List.forall_mem_cons.mpr ⟨⟨ms_8, rfl, av_mem (i := 666) rfl⟩, List.forall_mem_cons.mpr ⟨⟨ms_10, rfl, av_mem (i := 675) rfl⟩, List.forall_mem_cons.mpr ⟨⟨ms_13, rfl, av_mem (i := 687) rfl⟩, List.forall_mem_cons.mpr ⟨⟨ms_16, rfl, av_mem (i := 691) rfl⟩, List.forall_mem_cons.mpr ⟨⟨ms_28, rfl, av_mem (i := 719) rfl⟩, List.forall_mem_cons.mpr ⟨⟨ms_31, rfl, av_mem (i := 707) rfl⟩, List.forall_mem_cons.mpr ⟨⟨ms_3, rfl, av_mem (i := 767) rfl⟩, List.forall_mem_cons.mpr ⟨⟨ms_20, rfl, av_mem (i := 768) rfl⟩, List.forall_mem_cons.mpr ⟨⟨ms_22, rfl, av_mem (i := 829) rfl⟩, List.forall_mem_cons.mpr ⟨⟨ms_25, rfl, av_mem (i := 844) rfl⟩, List.forall_mem_cons.mpr ⟨⟨ms_26, rfl, av_mem (i := 849) rfl⟩, List.forall_mem_cons.mpr ⟨⟨ms_15, rfl, av_mem (i := 848) rfl⟩, List.forall_mem_cons.mpr ⟨⟨ms_222, rfl, av_mem (i := 139) rfl⟩, List.forall_mem_cons.mpr ⟨⟨ms_28, rfl, av_mem (i := 581) rfl⟩, List.forall_mem_cons.mpr ⟨⟨ms_29, rfl, av_mem (i := 604) rfl⟩, List.forall_mem_cons.mpr ⟨⟨ms_27, rfl, av_mem (i := 872) rfl⟩, List.forall_mem_cons.mpr ⟨⟨ms_221, rfl, av_mem (i := 886) rfl⟩, List.forall_mem_cons.mpr ⟨⟨ms_84, rfl, av_mem (i := 347) rfl⟩, List.forall_mem_cons.mpr ⟨⟨ms_85, rfl, av_mem (i := 351) rfl⟩, List.forall_mem_cons.mpr ⟨⟨ms_36, rfl, av_mem (i := 355) rfl⟩, List.forall_mem_cons.mpr ⟨⟨ms_27, rfl, av_mem (i := 490) rfl⟩, List.forall_mem_cons.mpr ⟨⟨ms_221, rfl, av_mem (i := 359) rfl⟩, List.forall_mem_cons.mpr ⟨⟨ms_87, rfl, av_mem (i := 366) rfl⟩, List.forall_mem_cons.mpr ⟨⟨ms_37, rfl, av_mem (i := 424) rfl⟩, List.forall_mem_cons.mpr ⟨⟨ms_38, rfl, av_mem (i := 429) rfl⟩, List.forall_mem_cons.mpr ⟨⟨ms_40, rfl, av_mem (i := 442) rfl⟩, List.forall_mem_cons.mpr ⟨⟨ms_88, rfl, av_mem (i := 457) rfl⟩, List.forall_mem_cons.mpr ⟨⟨ms_41, rfl, av_mem (i := 463) rfl⟩, List.forall_mem_cons.mpr ⟨⟨ms_43, rfl, av_mem (i := 467) rfl⟩, fun _ h => absurd h List.not_mem_nil⟩⟩⟩⟩⟩⟩⟩⟩⟩⟩⟩⟩⟩⟩⟩⟩⟩⟩⟩⟩⟩⟩⟩⟩⟩⟩⟩⟩⟩⟩⟩⟩⟩⟩⟩⟩⟩⟩⟩⟩
def av_ML0_1 : List (Nat × Nat × Nat) := [(2, 96, 90), (2, 99, 86), (2, 102, 91), (2, 106, 39), (2, 110, 82), (2, 113, 42), (2, 118, 92), (2, 129, 89), (2, 133, 44), (3, 37, 27), (3, 46, 0), (3, 59, 220), (3, 64, 1), (3, 68, 4), (3, 72, 6), (3, 76, 69), (3, 85, 51), (3, 89, 2), (3, 93, 70), (3, 100, 52), (3, 104, 53), (3, 108, 55), (3, 112, 54), (3, 119, 29), (3, 126, 221), (3, 129, 57), (3, 143, 59), (3, 147, 62), (3, 150, 3), (3, 154, 17), (3, 161, 75), (4, 19, 220), (4, 25, 84), (4, 31, 85), (4, 34, 66), (4, 43, 87), (4, 47, 67), (4, 54, 92), (4, 66, 90), (5, 45, 74)]
set_option maxRecDepth 100000 in
set_option maxHeartbeats 2000000 in
theorem av_ML0_1_ok : ∀ e ∈ av_ML0_1, ∃ r, av_TT e.2.2 = some r ∧ Cond.methodLink (av_cn e.1) e.2.1 r.2.1 ∈ lw_tbl := List.forall_mem_cons.mpr ⟨⟨ms_90, rfl, av_mem (i := 485) rfl⟩, List.forall_mem_cons.mpr ⟨⟨ms_86, rfl, av_mem (i := 428) rfl⟩, List.forall_mem_cons.mpr ⟨⟨ms_91, rfl, av_mem (i := 433) rfl⟩, List.forall_mem_cons.mpr ⟨⟨ms_39, rfl, av_mem (i := 437) rfl⟩, List.forall_mem_cons.mpr ⟨⟨ms_82, rfl, av_mem (i := 441) rfl⟩, List.forall_mem_cons.mpr ⟨⟨ms_42, rfl, av_mem (i := 446) rfl⟩, List.forall_mem_cons.mpr ⟨⟨ms_92, rfl, av_mem (i := 451) rfl⟩, List.forall_mem_cons.mpr ⟨⟨ms_89, rfl, av_mem (i := 473) rfl⟩, List.forall_mem_cons.mpr ⟨⟨ms_44, rfl, av_mem (i := 477) rfl⟩, List.forall_mem_cons.mpr ⟨⟨ms_27, rfl, av_mem (i := 135) rfl⟩, List.forall_mem_cons.mpr ⟨⟨ms_0, rfl, av_mem (i := 185) rfl⟩, List.forall_mem_cons.mpr ⟨⟨ms_220, rfl, av_mem (i := 511) rfl⟩, List.forall_mem_cons.mpr ⟨⟨ms_1, rfl, av_mem (i := 594) rfl⟩, List.forall_mem_cons.mpr ⟨⟨ms_4, rfl, av_mem (i := 605) rfl⟩, List.forall_mem_cons.mpr ⟨⟨ms_6, rfl, av_mem (i := 614) rfl⟩, List.forall_mem_cons.mpr ⟨⟨ms_69, rfl, av_mem (i := 634) rfl⟩, List.forall_mem_cons.mpr ⟨⟨ms_51, rfl, av_mem (i := 635) rfl⟩, List.forall_mem_cons.mpr ⟨⟨ms_2, rfl, av_mem (i := 656) rfl⟩, List.forall_mem_cons.mpr ⟨⟨ms_70, rfl, av_mem (i := 639) rfl⟩, List.forall_mem_cons.mpr ⟨⟨ms_52, rfl, av_mem (i := 640) rfl⟩, List.forall_mem_cons.mpr ⟨⟨ms_53, rfl, av_mem (i := 644) rfl⟩, List.forall_mem_cons.mpr ⟨⟨ms_55, rfl, av_mem (i := 653) rfl⟩, List.forall_mem_cons.mpr ⟨⟨ms_54, rfl, av_mem (i := 648) rfl⟩, List.forall_mem_cons.mpr ⟨⟨ms_29, rfl, av_mem (i := 652) rfl⟩, List.forall_mem_cons.mpr ⟨⟨ms_221, rfl, av_mem (i := 740) rfl⟩, List.forall_mem_cons.mpr ⟨⟨ms_57, rfl, av_mem (i := 741) rfl⟩, List.forall_mem_cons.mpr ⟨⟨ms_59, rfl, av_mem (i := 755) rfl⟩, List.forall_mem_cons.mpr ⟨⟨ms_62, rfl, av_mem (i := 788) rfl⟩, List.forall_mem_cons.mpr ⟨⟨ms_3, rfl, av_mem (i := 792) rfl⟩, List.forall_mem_cons.mpr ⟨⟨ms_17, rfl, av_mem (i := 793) rfl⟩, List.forall_mem_cons.mpr ⟨⟨ms_75, rfl, av_mem (i := 816) rfl⟩, List.forall_mem_cons.mpr ⟨⟨ms_220, rfl, av_mem (i := 522) rfl⟩, List.forall_mem_cons.mpr ⟨⟨ms_84, rfl, av_mem (i := 523) rfl⟩, List.forall_mem_cons.mpr ⟨⟨ms_85, rfl, av_mem (i := 524) rfl⟩, List.forall_mem_cons.mpr ⟨⟨ms_66, rfl, av_mem (i := 525) rfl⟩, List.forall_mem_cons.mpr ⟨⟨ms_87, rfl, av_mem (i := 530) rfl⟩, List.forall_mem_cons.mpr ⟨⟨ms_67, rfl, av_mem (i := 531) rfl⟩, List.forall_mem_cons.mpr ⟨⟨ms_92, rfl, av_mem (i := 538) rfl⟩, List.forall_mem_cons.mpr ⟨⟨ms_90, rfl, av_mem (i := 543) rfl⟩, List.forall_mem_cons.mpr ⟨⟨ms_74, rfl, av_mem (i := 551) rfl⟩, fun _ h => absurd h List.not_mem_nil⟩⟩⟩⟩⟩⟩⟩⟩⟩⟩⟩⟩⟩⟩⟩⟩⟩⟩⟩⟩⟩⟩⟩⟩⟩⟩⟩⟩⟩⟩⟩⟩⟩⟩⟩⟩⟩⟩⟩⟩
def av_ML0_2 : List (Nat × Nat × Nat) := [(5, 49, 70), (5, 53, 69), (6, 34, 80), (6, 38, 82), (6, 41, 83), (6, 54, 86), (6, 58, 85), (6, 61, 91), (7, 29, 34), (7, 38, 64), (7, 45, 45), (7, 54, 27), (7, 71, 79), (7, 75, 80), (7, 82, 81), (7, 85, 35), (7, 89, 99), (7, 92, 71), (7, 96, 69), (7, 104, 46), (7, 113, 65), (7, 120, 72), (7, 127, 73), (7, 133, 102), (7, 136, 28), (7, 139, 29), (7, 149, 47), (7, 153, 70), (7, 160, 48), (7, 168, 3), (7, 183, 17), (7, 187, 15), (7, 199, 18), (7, 203, 49), (7, 207, 56), (7, 216, 58), (7, 219, 19), (7, 222, 50), (7, 225, 60), (7, 228, 61)]
set_option maxRecDepth 100000 in
set_option maxHeartbeats 2000000 in
theorem av_ML0_2_ok : ∀ e ∈ av_ML0_2, ∃ r, av_TT e.2.2 = some r ∧ Cond.methodLink (av_cn e.1) e.2.1 r.2.1 ∈ lw_tbl := List.forall_mem_cons.mpr ⟨⟨ms_70, rfl, av_mem (i := 820) rfl⟩, List.forall_mem_cons.mpr ⟨⟨ms_69, rfl, av_mem (i := 907) rfl⟩, List.forall_mem_cons.mpr ⟨⟨ms_80, rfl, av_mem (i := 333) rfl⟩, List.forall_mem_cons.mpr ⟨⟨ms_82, rfl, av_mem (i := 334) rfl⟩, List.forall_mem_cons.mpr ⟨⟨ms_83, rfl, av_mem (i := 338) rfl⟩, List.forall_mem_cons.mpr ⟨⟨ms_86, rfl, av_mem (i := 370) rfl⟩, List.forall_mem_cons.mpr ⟨⟨ms_85, rfl, av_mem (i := 422) rfl⟩, List.forall_mem_cons.mpr ⟨⟨ms_91, rfl, av_mem (i := 455) rfl⟩, List.forall_mem_cons.mpr ⟨⟨ms_34, rfl, av_mem (i := 99) rfl⟩, List.forall_mem_cons.mpr ⟨⟨ms_64, rfl, av_mem (i := 115) rfl⟩, List.forall_mem_cons.mpr ⟨⟨ms_45, rfl, av_mem (i := 129) rfl⟩, List.forall_mem_cons.mpr ⟨⟨ms_27, rfl, av_mem (i := 284) rfl⟩, List.forall_mem_cons.mpr ⟨⟨ms_79, rfl, av_mem (i := 317) rfl⟩, List.forall_mem_cons.mpr ⟨⟨ms_80, rfl, av_mem (i := 325) rfl⟩, List.forall_mem_cons.mpr ⟨⟨ms_81, rfl, av_mem (i := 329) rfl⟩, List.forall_mem_cons.mpr ⟨⟨ms_35, rfl, av_mem (i := 341) rfl⟩, List.forall_mem_cons.mpr ⟨⟨ms_99, rfl, av_mem (i := 491) rfl⟩, List.forall_mem_cons.mpr ⟨⟨ms_71, rfl, av_mem (i := 495) rfl⟩, List.forall_mem_cons.mpr ⟨⟨ms_69, rfl, av_mem (i := 503) rfl⟩, List.forall_mem_cons.mpr ⟨⟨ms_46, rfl, av_mem (i := 507) rfl⟩, List.forall_mem_cons.mpr ⟨⟨ms_65, rfl, av_mem (i := 518) rfl⟩, List.forall_mem_cons.mpr ⟨⟨ms_72, rfl, av_mem (i := 544) rfl⟩, List.forall_mem_cons.mpr ⟨⟨ms_73, rfl, av_mem (i := 558) rfl⟩, List.forall_mem_cons.mpr ⟨⟨ms_102, rfl, av_mem (i := 570) rfl⟩, List.forall_mem_cons.mpr ⟨⟨ms_28, rfl, av_mem (i := 573) rfl⟩, List.forall_mem_cons.mpr ⟨⟨ms_29, rfl, av_mem (i := 577) rfl⟩, List.forall_mem_cons.mpr ⟨⟨ms_47, rfl, av_mem (i := 590) rfl⟩, List.forall_mem_cons.mpr ⟨⟨ms_70, rfl, av_mem (i := 622) rfl⟩, List.forall_mem_cons.mpr ⟨⟨ms_48, rfl, av_mem (i := 630) rfl⟩, List.forall_mem_cons.mpr ⟨⟨ms_3, rfl, av_mem (i := 699) rfl⟩, List.forall_mem_cons.mpr ⟨⟨ms_17, rfl, av_mem (i := 703) rfl⟩, List.forall_mem_cons.mpr ⟨⟨ms_15, rfl, av_mem (i := 715) rfl⟩, List.forall_mem_cons.mpr ⟨⟨ms_18, rfl, av_mem (i := 724) rfl⟩, List.forall_mem_cons.mpr ⟨⟨ms_49, rfl, av_mem (i := 732) rfl⟩, List.forall_mem_cons.mpr ⟨⟨ms_56, rfl, av_mem (i := 736) rfl⟩, List.forall_mem_cons.mpr ⟨⟨ms_58, rfl, av_mem (i := 751) rfl⟩, List.forall_mem_cons.mpr ⟨⟨ms_19, rfl, av_mem (i := 763) rfl⟩, List.forall_mem_cons.mpr ⟨⟨ms_50, rfl, av_mem (i := 780) rfl⟩, List.forall_mem_cons.mpr ⟨⟨ms_60, rfl, av_mem (i := 784) rfl⟩, List.forall_mem_cons.mpr ⟨⟨ms_61, rfl, av_mem (i := 794) rfl⟩, fun _ h => absurd h List.not_mem_nil⟩⟩⟩⟩⟩⟩⟩⟩⟩⟩⟩⟩⟩⟩⟩⟩⟩⟩⟩⟩⟩⟩⟩⟩⟩⟩⟩⟩⟩⟩⟩⟩⟩⟩⟩⟩⟩⟩⟩⟩
def av_ML0_3 : List (Nat × Nat × Nat) := [(7, 231, 218), (7, 236, 63), (7, 240, 21), (7, 243, 119), (7, 246, 23), (7, 249, 24), (7, 252, 32), (7, 255, 122), (7, 259, 33), (7, 262, 51), (7, 266, 77), (7, 269, 76), (8, 157, 129), (8, 176, 127), (8, 187, 132), (8, 191, 130), (8, 194, 131), (8, 229, 138), (8, 232, 134), (8, 238, 140), (8, 243, 133), (8, 247, 142), (8, 257, 144), (8, 261, 139), (8, 264, 137), (8, 268, 145), (8, 272, 141), (8, 282, 143), (8, 286, 135), (8, 289, 146), (8, 293, 136), (8, 296, 147), (8, 299, 149), (8, 308, 153), (8, 312, 152), (8, 339, 154), (8, 342, 155), (8, 345, 150), (8, 348, 159), (8, 360, 167)]
set_option maxRecDepth 100000 in
set_option maxHeartbeats 2000000 in
theorem av_ML0_3_ok : ∀ e ∈ av_ML0_3, ∃ r, av_TT e.2.2 = some r ∧ Cond.methodLink (av_cn e.1) e.2.1 r.2.1 ∈ lw_tbl := List.forall_mem_cons.mpr ⟨⟨ms_218, rfl, av_mem (i := 806) rfl⟩, List.forall_mem_cons.mpr ⟨⟨ms_63, rfl, av_mem (i := 812) rfl⟩, List.forall_mem_cons.mpr ⟨⟨ms_21, rfl, av_mem (i := 825) rfl⟩, List.forall_mem_cons.mpr ⟨⟨ms_119, rfl, av_mem (i := 837) rfl⟩, List.forall_mem_cons.mpr ⟨⟨ms_23, rfl, av_mem (i := 840) rfl⟩, List.forall_mem_cons.mpr ⟨⟨ms_24, rfl, av_mem (i := 857) rfl⟩, List.forall_mem_cons.mpr ⟨⟨ms_32, rfl, av_mem (i := 865) rfl⟩, List.forall_mem_cons.mpr ⟨⟨ms_122, rfl, av_mem (i := 873) rfl⟩, List.forall_mem_cons.mpr ⟨⟨ms_33, rfl, av_mem (i := 882) rfl⟩, List.forall_mem_cons.mpr ⟨⟨ms_51, rfl, av_mem (i := 877) rfl⟩, List.forall_mem_cons.mpr ⟨⟨ms_77, rfl, av_mem (i := 891) rfl⟩, List.forall_mem_cons.mpr ⟨⟨ms_76, rfl, av_mem (i := 903) rfl⟩, List.forall_mem_cons.mpr ⟨⟨ms_129, rfl, av_mem (i := 1120) rfl⟩, List.forall_mem_cons.mpr ⟨⟨ms_127, rfl, av_mem (i := 1125) rfl⟩, List.forall_mem_cons.mpr ⟨⟨ms_132, rfl, av_mem (i := 1184) rfl⟩, List.forall_mem_cons.mpr ⟨⟨ms_130, rfl, av_mem (i := 1116) rfl⟩, List.forall_mem_cons.mpr ⟨⟨ms_131, rfl, av_mem (i := 1134) rfl⟩, List.forall_mem_cons.mpr ⟨⟨ms_138, rfl, av_mem (i := 1170) rfl⟩, List.forall_mem_cons.mpr ⟨⟨ms_134, rfl, av_mem (i := 1179) rfl⟩, List.forall_mem_cons.mpr ⟨⟨ms_140, rfl, av_mem (i := 1194) rfl⟩, List.forall_mem_cons.mpr ⟨⟨ms_133, rfl, av_mem (i := 1202) rfl⟩, List.forall_mem_cons.mpr ⟨⟨ms_142, rfl, av_mem (i := 1206) rfl⟩, List.forall_mem_cons.mpr ⟨⟨ms_144, rfl, av_mem (i := 1162) rfl⟩, List.forall_mem_cons.mpr ⟨⟨ms_139, rfl, av_mem (i := 1142) rfl⟩, List.forall_mem_cons.mpr ⟨⟨ms_137, rfl, av_mem (i := 1153) rfl⟩, List.forall_mem_cons.mpr ⟨⟨ms_145, rfl, av_mem (i := 1158) rfl⟩, List.forall_mem_cons.mpr ⟨⟨ms_141, rfl, av_mem (i := 1166) rfl⟩, List.forall_mem_cons.mpr ⟨⟨ms_143, rfl, av_mem (i := 1190) rfl⟩, List.forall_mem_cons.mpr ⟨⟨ms_135, rfl, av_mem (i := 1214) rfl⟩, List.forall_mem_cons.mpr ⟨⟨ms_146, rfl, av_mem (i := 1138) rfl⟩, List.forall_mem_cons.mpr ⟨⟨ms_136, rfl, av_mem (i := 1112) rfl⟩, List.forall_mem_cons.mpr ⟨⟨ms_147, rfl, av_mem (i := 1130) rfl⟩, List.forall_mem_cons.mpr ⟨⟨ms_149, rfl, av_mem (i := 1222) rfl⟩, List.forall_mem_cons.mpr ⟨⟨ms_153, rfl, av_mem (i := 1239) rfl⟩, List.forall_mem_cons.mpr ⟨⟨ms_152, rfl, av_mem (i := 1243) rfl⟩, List.forall_mem_cons.mpr ⟨⟨ms_154, rfl, av_mem (i := 1234) rfl⟩, List.forall_mem_cons.mpr ⟨⟨ms_155, rfl, av_mem (i := 1230) rfl⟩, List.forall_mem_cons.mpr ⟨⟨ms_150, rfl, av_mem (i := 1273) rfl⟩, List.forall_mem_cons.mpr ⟨⟨ms_159, rfl, av_mem (i := 1277) rfl⟩, List.forall_mem_cons.mpr ⟨⟨ms_167, rfl, av_mem (i := 1345) rfl⟩, fun _ h => absurd h List.not_mem_nil⟩⟩⟩⟩⟩⟩⟩⟩⟩⟩⟩⟩⟩⟩⟩⟩⟩⟩⟩⟩⟩⟩⟩⟩⟩⟩⟩⟩⟩⟩⟩⟩⟩⟩⟩⟩⟩⟩⟩⟩
def av_ML0_4 : List (Nat × Nat × Nat) := [(8, 363, 166), (8, 366, 169), (8, 369, 168), (8, 372, 171), (8, 375, 173), (8, 378, 172), (8, 393, 170), (8, 396, 176), (8, 399, 177), (8, 403, 175), (8, 406, 178), (8, 409, 179), (8, 412, 165), (8, 415, 174), (8, 418, 180), (8, 421, 182), (8, 424, 163), (8, 427, 164), (8, 431, 181), (8, 434, 162), (8, 437, 184), (8, 440, 185), (8, 443, 188), (8, 446, 186), (8, 449, 183), (8, 452, 195), (8, 455, 194), (8, 458, 196), (8, 467, 200), (8, 470, 203), (8, 473, 206), (8, 476, 210), (8, 479, 209), (8, 485, 213), (8, 488, 216), (9, 9, 93), (9, 12, 126), (9, 13, 94), (9, 17, 128), (9, 18, 95)]
set_option maxRecDepth 100000 in
set_option maxHeartbeats 2000000 in
theorem av_ML0_4_ok : ∀ e ∈ av_ML0_4, ∃ r, av_TT e.2.2 = some r ∧ Cond.methodLink (av_cn e.1) e.2.1 r.2.1 ∈ lw_tbl := List.forall_mem_cons.mpr ⟨⟨ms_166, rfl, av_mem (i := 1313) rfl⟩, List.forall_mem_cons.mpr ⟨⟨ms_169, rfl, av_mem (i := 1361) rfl⟩, List.forall_mem_cons.mpr ⟨⟨ms_168, rfl, av_mem (i := 1341) rfl⟩, List.forall_mem_cons.mpr ⟨⟨ms_171, rfl, av_mem (i := 1349) rfl⟩, List.forall_mem_cons.mpr ⟨⟨ms_173, rfl, av_mem (i := 1353) rfl⟩, List.forall_mem_cons.mpr ⟨⟨ms_172, rfl, av_mem (i := 1357) rfl⟩, List.forall_mem_cons.mpr ⟨⟨ms_170, rfl, av_mem (i := 1369) rfl⟩, List.forall_mem_cons.mpr ⟨⟨ms_176, rfl, av_mem (i := 1373) rfl⟩, List.forall_mem_cons.mpr ⟨⟨ms_177, rfl, av_mem (i := 1377) rfl⟩, List.forall_mem_cons.mpr ⟨⟨ms_175, rfl, av_mem (i := 1381) rfl⟩, List.forall_mem_cons.mpr ⟨⟨ms_178, rfl, av_mem (i := 1385) rfl⟩, List.forall_mem_cons.mpr ⟨⟨ms_179, rfl, av_mem (i := 1389) rfl⟩, List.forall_mem_cons.mpr ⟨⟨ms_165, rfl, av_mem (i := 1309) rfl⟩, List.forall_mem_cons.mpr ⟨⟨ms_174, rfl, av_mem (i := 1337) rfl⟩, List.forall_mem_cons.mpr ⟨⟨ms_180, rfl, av_mem (i := 1365) rfl⟩, List.forall_mem_cons.mpr ⟨⟨ms_182, rfl, av_mem (i := 1397) rfl⟩, List.forall_mem_cons.mpr ⟨⟨ms_163, rfl, av_mem (i := 1297) rfl⟩, List.forall_mem_cons.mpr ⟨⟨ms_164, rfl, av_mem (i := 1301) rfl⟩, List.forall_mem_cons.mpr ⟨⟨ms_181, rfl, av_mem (i := 1333) rfl⟩, List.forall_mem_cons.mpr ⟨⟨ms_162, rfl, av_mem (i := 1293) rfl⟩, List.forall_mem_cons.mpr ⟨⟨ms_184, rfl, av_mem (i := 1329) rfl⟩, List.forall_mem_cons.mpr ⟨⟨ms_185, rfl, av_mem (i := 1325) rfl⟩, List.forall_mem_cons.mpr ⟨⟨ms_188, rfl, av_mem (i := 1289) rfl⟩, List.forall_mem_cons.mpr ⟨⟨ms_186, rfl, av_mem (i := 1321) rfl⟩, List.forall_mem_cons.mpr ⟨⟨ms_183, rfl, av_mem (i := 1393) rfl⟩, List.forall_mem_cons.mpr ⟨⟨ms_195, rfl, av_mem (i := 1424) rfl⟩, List.forall_mem_cons.mpr ⟨⟨ms_194, rfl, av_mem (i := 1417) rfl⟩, List.forall_mem_cons.mpr ⟨⟨ms_196, rfl, av_mem (i := 1420) rfl⟩, List.forall_mem_cons.mpr ⟨⟨ms_200, rfl, av_mem (i := 1440) rfl⟩, List.forall_mem_cons.mpr ⟨⟨ms_203, rfl, av_mem (i := 1452) rfl⟩, List.forall_mem_cons.mpr ⟨⟨ms_206, rfl, av_mem (i := 1464) rfl⟩, List.forall_mem_cons.mpr ⟨⟨ms_210, rfl, av_mem (i := 1476) rfl⟩, List.forall_mem_cons.mpr ⟨⟨ms_209, rfl, av_mem (i := 1480) rfl⟩, List.forall_mem_cons.mpr ⟨⟨ms_213, rfl, av_mem (i := 1492) rfl⟩, List.forall_mem_cons.mpr ⟨⟨ms_216, rfl, av_mem (i := 1504) rfl⟩, List.forall_mem_cons.mpr ⟨⟨ms_93, rfl, av_mem (i := 20) rfl⟩, List.forall_mem_cons.mpr ⟨⟨ms_126, rfl, av_mem (i := 910) rfl⟩, List.forall_mem_cons.mpr ⟨⟨ms_94, rfl, av_mem (i := 313) rfl⟩, List.forall_mem_cons.mpr ⟨⟨ms_128, rfl, av_mem (i := 1104) rfl⟩, List.forall_mem_cons.mpr ⟨⟨ms_95, rfl, av_mem (i := 321) rfl⟩, fun _ h => absurd h List.not_mem_nil⟩⟩⟩⟩⟩⟩⟩⟩⟩⟩⟩⟩⟩⟩⟩⟩⟩⟩⟩⟩⟩⟩⟩⟩⟩⟩⟩⟩⟩⟩⟩⟩⟩⟩⟩⟩⟩⟩⟩⟩
def av_ML0_5 : List (Nat × Nat × Nat) := [(9, 22, 148), (9, 23, 96), (9, 27, 151), (9, 28, 97), (9, 31, 156), (9, 32, 98), (9, 35, 157), (9, 36, 100), (9, 40, 158), (9, 41, 101), (9, 45, 161), (9, 46, 103), (9, 49, 187), (9, 50, 104), (9, 54, 189), (9, 55, 105), (9, 58, 160), (9, 59, 106), (9, 62, 190), (9, 63, 107), (9, 66, 191), (9, 67, 108), (9, 70, 192), (9, 71, 109), (9, 74, 193), (9, 75, 110), (9, 78, 197), (9, 79, 111), (9, 82, 198), (9, 83, 112), (9, 86, 199), (9, 87, 113), (9, 90, 201), (9, 91, 114), (9, 94, 202), (9, 95, 115), (9, 98, 204), (9, 99, 116), (9, 102, 205), (9, 103, 117)]
set_option maxRecDepth 100000 in
set_option maxHeartbeats 2000000 in
theorem av_ML0_5_ok : ∀ e ∈ av_ML0_5, ∃ r, av_TT e.2.2 = some r ∧ Cond.methodLink (av_cn e.1) e.2.1 r.2.1 ∈ lw_tbl := List.forall_mem_cons.mpr ⟨⟨ms_148, rfl, av_mem (i := 1108) rfl⟩, List.forall_mem_cons.mpr ⟨⟨ms_96, rfl, av_mem (i := 499) rfl⟩, List.forall_mem_cons.mpr ⟨⟨ms_151, rfl, av_mem (i := 1218) rfl⟩, List.forall_mem_cons.mpr ⟨⟨ms_97, rfl, av_mem (i := 514) rfl⟩, List.forall_mem_cons.mpr ⟨⟨ms_156, rfl, av_mem (i := 1226) rfl⟩, List.forall_mem_cons.mpr ⟨⟨ms_98, rfl, av_mem (i := 554) rfl⟩, List.forall_mem_cons.mpr ⟨⟨ms_157, rfl, av_mem (i := 1261) rfl⟩, List.forall_mem_cons.mpr ⟨⟨ms_100, rfl, av_mem (i := 562) rfl⟩, List.forall_mem_cons.mpr ⟨⟨ms_158, rfl, av_mem (i := 1265) rfl⟩, List.forall_mem_cons.mpr ⟨⟨ms_101, rfl, av_mem (i := 566) rfl⟩, List.forall_mem_cons.mpr ⟨⟨ms_161, rfl, av_mem (i := 1281) rfl⟩, List.forall_mem_cons.mpr ⟨⟨ms_103, rfl, av_mem (i := 582) rfl⟩, List.forall_mem_cons.mpr ⟨⟨ms_187, rfl, av_mem (i := 1285) rfl⟩, List.forall_mem_cons.mpr ⟨⟨ms_104, rfl, av_mem (i := 586) rfl⟩, List.forall_mem_cons.mpr ⟨⟨ms_189, rfl, av_mem (i := 1305) rfl⟩, List.forall_mem_cons.mpr ⟨⟨ms_105, rfl, av_mem (i := 618) rfl⟩, List.forall_mem_cons.mpr ⟨⟨ms_160, rfl, av_mem (i := 1269) rfl⟩, List.forall_mem_cons.mpr ⟨⟨ms_106, rfl, av_mem (i := 626) rfl⟩, List.forall_mem_cons.mpr ⟨⟨ms_190, rfl, av_mem (i := 1317) rfl⟩, List.forall_mem_cons.mpr ⟨⟨ms_107, rfl, av_mem (i := 711) rfl⟩, List.forall_mem_cons.mpr ⟨⟨ms_191, rfl, av_mem (i := 1401) rfl⟩, List.forall_mem_cons.mpr ⟨⟨ms_108, rfl, av_mem (i := 720) rfl⟩, List.forall_mem_cons.mpr ⟨⟨ms_192, rfl, av_mem (i := 1405) rfl⟩, List.forall_mem_cons.mpr ⟨⟨ms_109, rfl, av_mem (i := 728) rfl⟩, List.forall_mem_cons.mpr ⟨⟨ms_193, rfl, av_mem (i := 1409) rfl⟩, List.forall_mem_cons.mpr ⟨⟨ms_110, rfl, av_mem (i := 747) rfl⟩, List.forall_mem_cons.mpr ⟨⟨ms_197, rfl, av_mem (i := 1413) rfl⟩, List.forall_mem_cons.mpr ⟨⟨ms_111, rfl, av_mem (i := 759) rfl⟩, List.forall_mem_cons.mpr ⟨⟨ms_198, rfl, av_mem (i := 1428) rfl⟩, List.forall_mem_cons.mpr ⟨⟨ms_112, rfl, av_mem (i := 772) rfl⟩, List.forall_mem_cons.mpr ⟨⟨ms_199, rfl, av_mem (i := 1432) rfl⟩, List.forall_mem_cons.mpr ⟨⟨ms_113, rfl, av_mem (i := 776) rfl⟩, List.forall_mem_cons.mpr ⟨⟨ms_201, rfl, av_mem (i := 1436) rfl⟩, List.forall_mem_cons.mpr ⟨⟨ms_114, rfl, av_mem (i := 798) rfl⟩, List.forall_mem_cons.mpr ⟨⟨ms_202, rfl, av_mem (i := 1444) rfl⟩, List.forall_mem_cons.mpr ⟨⟨ms_115, rfl, av_mem (i := 802) rfl⟩, List.forall_mem_cons.mpr ⟨⟨ms_204, rfl, av_mem (i := 1448) rfl⟩, List.forall_mem_cons.mpr ⟨⟨ms_116, rfl, av_mem (i := 821) rfl⟩, List.forall_mem_cons.mpr ⟨⟨ms_205, rfl, av_mem (i := 1456) rfl⟩, List.forall_mem_cons.mpr ⟨⟨ms_117, rfl, av_mem (i := 833) rfl⟩, fun _ h => absurd h List.not_mem_nil⟩⟩⟩⟩⟩⟩⟩⟩⟩⟩⟩⟩⟩⟩⟩⟩⟩⟩⟩⟩⟩⟩⟩⟩⟩⟩⟩⟩⟩⟩⟩⟩⟩⟩⟩⟩⟩⟩⟩⟩
def av_ML0_6 : List (Nat × Nat × Nat) := [(9, 106, 207), (9, 107, 118), (9, 110, 208), (9, 111, 120), (9, 114, 211), (9, 115, 121), (9, 118, 212), (9, 119, 123), (9, 122, 214), (9, 123, 124), (9, 127, 215), (9, 128, 125), (9, 131, 217), (10, 13, 219)]
set_option maxRecDepth 100000 in
set_option maxHeartbeats 2000000 in
theorem av_ML0_6_ok : ∀ e ∈ av_ML0_6, ∃ r, av_TT e.2.2 = some r ∧ Cond.methodLink (av_cn e.1) e.2.1 r.2.1 ∈ lw_tbl := List.forall_mem_cons.mpr ⟨⟨ms_207, rfl, av_mem (i := 1460) rfl⟩, List.forall_mem_cons.mpr ⟨⟨ms_118, rfl, av_mem (i := 853) rfl⟩, List.forall_mem_cons.mpr ⟨⟨ms_208, rfl, av_mem (i := 1468) rfl⟩, List.forall_mem_cons.mpr ⟨⟨ms_120, rfl, av_mem (i := 861) rfl⟩, List.forall_mem_cons.mpr ⟨⟨ms_211, rfl, av_mem (i := 1472) rfl⟩, List.forall_mem_cons.mpr ⟨⟨ms_121, rfl, av_mem (i := 878) rfl⟩, List.forall_mem_cons.mpr ⟨⟨ms_212, rfl, av_mem (i := 1484) rfl⟩, List.forall_mem_cons.mpr ⟨⟨ms_123, rfl, av_mem (i := 887) rfl⟩, List.forall_mem_cons.mpr ⟨⟨ms_214, rfl, av_mem (i := 1488) rfl⟩, List.forall_mem_cons.mpr ⟨⟨ms_124, rfl, av_mem (i := 895) rfl⟩, List.forall_mem_cons.mpr ⟨⟨ms_215, rfl, av_mem (i := 1496) rfl⟩, List.forall_mem_cons.mpr ⟨⟨ms_125, rfl, av_mem (i := 899) rfl⟩, List.forall_mem_cons.mpr ⟨⟨ms_217, rfl, av_mem (i := 1500) rfl⟩, List.forall_mem_cons.mpr ⟨⟨ms_219, rfl, av_mem (i := 362) rfl⟩, fun _ h => absurd h List.not_mem_nil⟩⟩⟩⟩⟩⟩⟩⟩⟩⟩⟩⟩⟩⟩
def av_ML0 : List (Nat × Nat × Nat) := av_ML0_0 ++ av_ML0_1 ++ av_ML0_2 ++ av_ML0_3 ++ av_ML0_4 ++ av_ML0_5 ++ av_ML0_6
theorem av_ML0_ok : ∀ e ∈ av_ML0, ∃ r, av_TT e.2.2 = some r ∧ Cond.methodLink (av_cn e.1) e.2.1 r.2.1 ∈ lw_tbl := List.forall_mem_append.mpr ⟨List.forall_mem_append.mpr ⟨List.forall_mem_append.mpr ⟨List.forall_mem_append.mpr ⟨List.forall_mem_append.mpr ⟨List.forall_mem_append.mpr ⟨av_ML0_0_ok, av_ML0_1_ok⟩, av_ML0_2_ok⟩, av_ML0_3_ok⟩, av_ML0_4_ok⟩, av_ML0_5_ok⟩, av_ML0_6_ok⟩
def av_ML1_0 : List (Nat × Nat × Nat) := [(7, 9, 78), (7, 18, 68)]
set_option maxRecDepth 100000 in
set_option maxHeartbeats 2000000 in
theorem av_ML1_0_ok : ∀ e ∈ av_ML1_0, ∃ r, av_TT e.2.2 = some r ∧ Cond.methodLinkNest (av_cn e.1) e.2.1 r.2.1 "CrossingWords" ∈ lw_tbl := List.forall_mem_cons.mpr ⟨⟨ms_78, rfl, av_mem (i := 28) rfl⟩, List.forall_mem_cons.mpr ⟨⟨ms_68, rfl, av_mem (i := 61) rfl⟩, fun _ h => absurd h List.not_mem_nil⟩⟩
def av_ML1 : List (Nat × Nat × Nat) := av_ML1_0
theorem av_ML1_ok : ∀ e ∈ av_ML1, ∃ r, av_TT e.2.2 = some r ∧ Cond.methodLinkNest (av_cn e.1) e.2.1 r.2.1 "CrossingWords" ∈ lw_tbl := av_ML1_0_ok
def av_AT_0 : List (Nat × Nat × Nat) := [(5, 9, 30), (7, 16, 31)]
set_option maxRecDepth 100000 in
set_option maxHeartbeats 2000000 in
theorem av_AT_0_ok : ∀ e ∈ av_AT_0, ∃ C0, av_ft e.2.2 = .object C0 ∧ Cond.classLink (av_cn e.1) e.2.1 C0 ∈ lw_tbl ∧ Cond.arrayOver (.object C0) ∈ lw_tbl := List.forall_mem_cons.mpr ⟨⟨RX1, rfl, av_mem (i := 65) rfl, av_mem (i := 66) rfl⟩, List.forall_mem_cons.mpr ⟨⟨RX5, rfl, av_mem (i := 59) rfl, av_mem (i := 96) rfl⟩, fun _ h => absurd h List.not_mem_nil⟩⟩
def av_AT : List (Nat × Nat × Nat) := av_AT_0
theorem av_AT_ok : ∀ e ∈ av_AT, ∃ C0, av_ft e.2.2 = .object C0 ∧ Cond.classLink (av_cn e.1) e.2.1 C0 ∈ lw_tbl ∧ Cond.arrayOver (.object C0) ∈ lw_tbl := av_AT_0_ok
def av_NT_0 : List (Nat × Nat) := [(5, 17)]
set_option maxRecDepth 100000 in
set_option maxHeartbeats 2000000 in
theorem av_NT_0_ok : ∀ e ∈ av_NT_0, Cond.classLink (av_cn e.1) e.2 "[[I" ∈ lw_tbl := List.forall_mem_cons.mpr ⟨av_mem (i := 67) rfl, fun _ h => absurd h List.not_mem_nil⟩
def av_NT : List (Nat × Nat) := av_NT_0
theorem av_NT_ok : ∀ e ∈ av_NT, Cond.classLink (av_cn e.1) e.2 "[[I" ∈ lw_tbl := av_NT_0_ok
def av_XT_0 : List (Nat × Nat) := [(1, 48), (10, 317)]
set_option maxRecDepth 100000 in
set_option maxHeartbeats 2000000 in
theorem av_XT_0_ok : ∀ e ∈ av_XT_0, Cond.classLink (av_cn e.1) e.2 "[I" ∈ lw_tbl := List.forall_mem_cons.mpr ⟨av_mem (i := 870) rfl, List.forall_mem_cons.mpr ⟨av_mem (i := 148) rfl, fun _ h => absurd h List.not_mem_nil⟩⟩
def av_XT : List (Nat × Nat) := av_XT_0
theorem av_XT_ok : ∀ e ∈ av_XT, Cond.classLink (av_cn e.1) e.2 "[I" ∈ lw_tbl := av_XT_0_ok
def av_GT_0 : List (Nat × Nat) := [(5, 35)]
set_option maxRecDepth 100000 in
set_option maxHeartbeats 2000000 in
theorem av_GT_0_ok : ∀ e ∈ av_GT_0, Cond.fieldLinkNest (av_cn e.1) e.2 RX7 "PLAIN_LAW" "[I" "CrossingWords" ∈ lw_tbl := List.forall_mem_cons.mpr ⟨av_mem (i := 548) rfl, fun _ h => absurd h List.not_mem_nil⟩
def av_GT : List (Nat × Nat) := av_GT_0
theorem av_GT_ok : ∀ e ∈ av_GT, Cond.fieldLinkNest (av_cn e.1) e.2 RX7 "PLAIN_LAW" "[I" "CrossingWords" ∈ lw_tbl := av_GT_0_ok
set_option maxRecDepth 100000 in
set_option maxHeartbeats 2000000 in
theorem av_f_ac_byte : Cond.arrayClass .byte ∈ lw_tbl := av_mem (i := 58) rfl
set_option maxRecDepth 100000 in
set_option maxHeartbeats 2000000 in
theorem av_f_ac_boolean : Cond.arrayClass .boolean ∈ lw_tbl := av_mem (i := 182) rfl
/-! THE CHECK OF AN ENTRY -/
def av_okB (own : Nat) (cc : ByteArray) (ini : Bool) (fr lo pc : Nat) (x : av_E) : Bool := decide (decode cc pc = .ok (x.1, av_len x)) && (match x.1 with
  | .bipush n => decide ((Int8.ofInt n).toInt32 = Int32.ofInt n)
  | .sipush n => decide ((Int16.ofInt n).toInt32 = Int32.ofInt n)
  | .ldc idx => (decide (x.2.2.1 = 0) && decide ((own, idx, x.2.2.2.2.2) ∈ av_KT)) || (decide (¬ x.2.2.1 = 0) && av_strs.any (fun q => decide (q.1 = own) && decide (q.2.1 = idx) && decide (q.2.2.1 = x.2.2.2.1)))
  | .ldc_w idx => decide ((own, idx, x.2.2.2.2.2) ∈ av_KT)
  | .ldc2_w idx => decide ((own, idx, x.2.2.2.2.2) ∈ av_JT)
  | .goto off => decide ((pc : Int) + off = (x.2.2.1 : Int))
  | .ifCond _ off => decide ((pc : Int) + off = (x.2.2.1 : Int))
  | .if_icmp _ off => decide ((pc : Int) + off = (x.2.2.1 : Int))
  | .ifnull off => decide ((pc : Int) + off = (x.2.2.1 : Int))
  | .ifnonnull off => decide ((pc : Int) + off = (x.2.2.1 : Int))
  | .tableswitch d low high offs => decide (0 ≤ (pc : Int) + d) && offs.toList.all (fun q => decide (0 ≤ (pc : Int) + q)) && decide (high - low < offs.toList.length)
  | .lookupswitch d ps => (ps.toList.zip (ps.toList.drop 1)).all (fun (a, next) => a.1 < next.1) && decide (0 ≤ (pc : Int) + d) && ps.toList.all (fun q => decide (0 ≤ (pc : Int) + q.2))
  | .getfield idx => decide (x.2.2.1 < 9) && decide (x.2.2.2.1 < av_N x.2.2.1) && decide (x.2.2.2.2.1 = av_tg (av_ty x.2.2.1 x.2.2.2.1)) && (decide ((own, idx, x.2.2.1, x.2.2.2.1) ∈ av_FT0) || decide ((own, idx, x.2.2.1, x.2.2.2.1) ∈ av_FT1))
  | .putfield idx => decide (x.2.2.1 < 9) && decide (x.2.2.2.1 < av_N x.2.2.1) && decide (x.2.2.2.2.1 = av_tg (av_ty x.2.2.1 x.2.2.2.1)) && (decide (¬ x.2.2.2.2.1 = 0) || decide (av_ty x.2.2.1 x.2.2.2.1 = .int)) && (decide ((own, idx, x.2.2.1, x.2.2.2.1) ∈ av_FT0) || decide ((own, idx, x.2.2.1, x.2.2.2.1) ∈ av_FT1)) &&
    (decide ((av_T x.2.2.1 x.2.2.2.1).2.2.2 = false) || (decide (own = x.2.2.1) && decide ((av_T x.2.2.1 x.2.2.2.1).1 = av_cn x.2.2.1) && decide (ini = true) && decide ((own, idx, x.2.2.1, x.2.2.2.1) ∈ av_FT0)))
  | .getstatic idx => decide ((own, idx) ∈ av_GT)
  | .newarray t => (match t with
    | .int => true
    | .byte => true
    | .boolean => true
    | _ => false)
  | .anewarray idx => decide ((own, idx, x.2.2.1) ∈ av_AT)
  | .multianewarray idx d => decide (d = 2) && decide ((own, idx) ∈ av_NT)
  | .new idx => decide (x.2.2.1 < 9) && decide ((own, idx, x.2.2.1) ∈ av_CT)
  | .checkcast idx => decide ((own, idx) ∈ av_XT)
  | .invokespecial idx => decide (x.2.2.1 < 1000) || (decide (x.2.2.1 = 1000) && decide ((own, 1000, idx) ∈ av_IT) && decide (1 ≤ fr) && decide (40 ≤ lo))
  | .invokestatic idx => decide (x.2.2.1 < 1000) || ((decide (x.2.2.1 = 1001) || decide (x.2.2.1 = 1002) || decide (x.2.2.1 = 1003)) && decide ((own, x.2.2.1, idx) ∈ av_IT) && decide (1 ≤ fr) && decide (40 ≤ lo))
  | .invokevirtual idx => decide (x.2.2.1 < 1000) || ((decide (x.2.2.1 = 1004) || decide (x.2.2.1 = 1005) || decide (x.2.2.1 = 1006)) && decide ((own, x.2.2.1, idx) ∈ av_IT) && decide (4 ≤ fr) && decide (120 ≤ lo))
  | _ => true)
theorem av_FTs {own idx ci k : Nat} (h : (own, idx, ci, k) ∈ av_FT0 ∨ (own, idx, ci, k) ∈ av_FT1) : av_FL own idx ci k := by
  rcases h with h | h
  · exact Or.inl (av_FT0_ok _ h)
  · exact Or.inr ⟨_, av_FT1_ok _ h⟩
set_option maxHeartbeats 2000000 in
theorem av_okB_ok {own : Nat} {cc : ByteArray} {ini : Bool} {fr lo pc : Nat} {x : av_E} (h : av_okB own cc ini fr lo pc x = true) : av_ok own cc ini fr lo pc x := by
  obtain ⟨ins, ln, xa, xb, xc, xk⟩ := x
  unfold av_okB at h
  rw [Bool.and_eq_true, decide_eq_true_eq] at h
  refine ⟨h.1, ?_⟩
  have h := h.2
  cases ins with
  | ldc idx =>
    simp only [Bool.or_eq_true, Bool.and_eq_true, decide_eq_true_eq, List.any_eq_true] at h
    rcases h with ⟨h1, h2⟩ | ⟨h1, q, hq, ⟨e1, e2⟩, e3⟩
    · exact Or.inl ⟨h1, av_KT_ok _ h2⟩
    · obtain ⟨q1, q2, q3, q4⟩ := q
      dsimp only at e1 e2 e3
      subst e1; subst e2; subst e3
      exact Or.inr ⟨h1, q4, hq⟩
  | ldc_w idx => exact av_KT_ok _ (of_decide_eq_true h)
  | ldc2_w idx => exact av_JT_ok _ (of_decide_eq_true h)
  | getfield idx =>
    simp only [Bool.or_eq_true, Bool.and_eq_true, decide_eq_true_eq] at h
    exact ⟨h.1.1.1, h.1.1.2, h.1.2, av_FTs h.2⟩
  | putfield idx =>
    simp only [Bool.or_eq_true, Bool.and_eq_true, decide_eq_true_eq] at h
    obtain ⟨⟨⟨⟨⟨h1, h2⟩, h3⟩, h4⟩, h5⟩, h6⟩ := h
    refine ⟨h1, h2, h3, fun q => ?_, av_FTs h5, ?_⟩
    · rcases h4 with h4 | h4
      · exact absurd q h4
      · exact h4
    · rcases h6 with h6 | ⟨⟨⟨h6, h7⟩, h8⟩, h9⟩
      · exact Or.inl h6
      · exact Or.inr ⟨h6, h7, h8, av_FT0_ok _ h9⟩
  | getstatic idx => exact ⟨_, av_GT_ok _ (of_decide_eq_true h)⟩
  | newarray t =>
    cases t with
    | int => exact av_f_acI
    | byte => exact av_f_ac_byte
    | boolean => exact av_f_ac_boolean
    | _ => cases h
  | anewarray idx => exact av_AT_ok _ (of_decide_eq_true h)
  | multianewarray idx d =>
    simp only [Bool.and_eq_true, decide_eq_true_eq] at h
    exact ⟨h.1, av_NT_ok _ h.2⟩
  | new idx =>
    simp only [Bool.and_eq_true, decide_eq_true_eq] at h
    exact ⟨h.1, av_CT_ok _ h.2⟩
  | checkcast idx => exact av_XT_ok _ (of_decide_eq_true h)
  | invokespecial idx =>
    simp only [Bool.or_eq_true, Bool.and_eq_true, decide_eq_true_eq] at h
    intro hk
    rcases h with h | ⟨⟨⟨h1, h2⟩, h3⟩, h4⟩
    · have hk : 1000 ≤ xa := hk
      omega
    · exact ⟨h1, av_IT_ok _ h2, h3, h4⟩
  | invokestatic idx =>
    simp only [Bool.or_eq_true, Bool.and_eq_true, decide_eq_true_eq] at h
    intro hk
    rcases h with h | ⟨⟨⟨h1, h2⟩, h3⟩, h4⟩
    · have hk : 1000 ≤ xa := hk
      omega
    · exact ⟨or_assoc.mp h1, av_IT_ok _ h2, h3, h4⟩
  | invokevirtual idx =>
    simp only [Bool.or_eq_true, Bool.and_eq_true, decide_eq_true_eq] at h
    intro hk
    rcases h with h | ⟨⟨⟨h1, h2⟩, h3⟩, h4⟩
    · have hk : 1000 ≤ xa := hk
      omega
    · exact ⟨or_assoc.mp h1, av_IT_ok _ h2, h3, h4⟩
  | tableswitch d low high offs =>
    simp only [Bool.and_eq_true, decide_eq_true_eq, List.all_eq_true] at h
    exact ⟨h.1.1, h.1.2, h.2⟩
  | lookupswitch d ps =>
    rw [Bool.and_eq_true, Bool.and_eq_true] at h
    refine ⟨h.1.1, of_decide_eq_true h.1.2, fun q hq => ?_⟩
    have := List.all_eq_true.mp h.2 q hq
    exact of_decide_eq_true this
  | bipush n => exact of_decide_eq_true h
  | sipush n => exact of_decide_eq_true h
  | goto off => exact of_decide_eq_true h
  | ifCond c off => exact of_decide_eq_true h
  | if_icmp c off => exact of_decide_eq_true h
  | ifnull off => exact of_decide_eq_true h
  | ifnonnull off => exact of_decide_eq_true h
  | _ => trivial
def av_rokB (rt : Option FieldType) (x : av_E) : Bool := match x.1 with
  | .return_ => decide (rt = none)
  | .ireturn => (decide (x.2.2.1 = 0) && decide (rt = some .int)) || (decide (x.2.2.1 = 1) && decide (rt = some .boolean))
  | .areturn => (match rt with
    | some (.object _) => true
    | some (.array _) => true
    | _ => false)
  | _ => true
theorem av_rokB_ok {rt : Option FieldType} {x : av_E} (h : av_rokB rt x = true) : av_rok rt x := by
  obtain ⟨ins, ln, xa, xb, xc, xk⟩ := x
  unfold av_rokB at h
  cases ins with
  | return_ => exact (of_decide_eq_true (p := rt = none) h)
  | ireturn =>
    simp only [Bool.or_eq_true, Bool.and_eq_true, decide_eq_true_eq] at h
    exact h
  | areturn =>
    dsimp only at h
    split at h
    · next n => exact ⟨_, rfl, Or.inl ⟨n, rfl⟩⟩
    · next n => exact ⟨_, rfl, Or.inr ⟨n, rfl⟩⟩
    · cases h
  | _ => trivial
def av_cokB (own fr lo : Nat) (x : av_E) : Bool := match av_TT x.2.2.1 with
  | none => false
  | some r => decide (r.2.2.2.2.2.1 = x.2.2.2.2.1) && decide (r.2.2.2.2.2.2.1 = x.2.2.2.1) && decide ((r.1 : Int) = x.2.2.2.2.2) && decide (r.2.2.2.2.2.2.2.1 + 1 ≤ fr) && decide (8 + (r.2.2.2.1 + 11) + r.2.2.2.2.2.2.2.2.1 ≤ lo) && (match x.1 with
    | .invokevirtual idx => decide (x.2.2.2.2.1 = 0) && decide ((own, idx, x.2.2.1) ∈ av_ML0)
    | .invokespecial idx => decide (x.2.2.2.2.1 = 1) && (decide ((own, idx, x.2.2.1) ∈ av_ML0) || decide ((own, idx, x.2.2.1) ∈ av_ML1))
    | .invokestatic idx => decide (x.2.2.2.2.1 = 2) && decide ((own, idx, x.2.2.1) ∈ av_ML0)
    | _ => true)
theorem av_cokB_ok {own fr lo : Nat} {x : av_E} (h : av_cokB own fr lo x = true) : av_cok av_TT own fr lo x := by
  unfold av_cokB at h
  split at h
  · cases h
  · next r hr =>
    simp only [Bool.and_eq_true, decide_eq_true_eq] at h
    obtain ⟨⟨⟨⟨⟨h1, h2⟩, h3⟩, h4⟩, h5⟩, h6⟩ := h
    have m0 : ∀ idx, (own, idx, x.2.2.1) ∈ av_ML0 → Cond.methodLink (av_cn own) idx r.2.1 ∈ lw_tbl := by
      intro idx hm
      obtain ⟨r', e1, e2⟩ := av_ML0_ok _ hm
      cases hr.symm.trans e1
      exact e2
    have m1 : ∀ idx, (own, idx, x.2.2.1) ∈ av_ML1 → Cond.methodLinkNest (av_cn own) idx r.2.1 "CrossingWords" ∈ lw_tbl := by
      intro idx hm
      obtain ⟨r', e1, e2⟩ := av_ML1_ok _ hm
      cases hr.symm.trans e1
      exact e2
    refine ⟨r, hr, h1, h2, h3, h4, h5, ?_⟩
    obtain ⟨ins, ln, xa, xb, xc, xk⟩ := x
    cases ins with
    | invokevirtual idx =>
      simp only [Bool.and_eq_true, decide_eq_true_eq] at h6
      exact ⟨h6.1, m0 idx h6.2⟩
    | invokespecial idx =>
      simp only [Bool.and_eq_true, Bool.or_eq_true, decide_eq_true_eq] at h6
      refine ⟨h6.1, ?_⟩
      rcases h6.2 with q | q
      · exact Or.inl (m0 idx q)
      · exact Or.inr ⟨_, m1 idx q⟩
    | invokestatic idx =>
      simp only [Bool.and_eq_true, decide_eq_true_eq] at h6
      exact ⟨h6.1, m0 idx h6.2⟩
    | _ => trivial
def av_dokB (r : av_Mr) : Bool := r.2.2.2.2.2.2.2.2.2.all (fun q => av_okB r.1 r.2.2.1 (decide (r.2.2.2.2.2.1 = 1)) r.2.2.2.2.2.2.2.1 r.2.2.2.2.2.2.2.2.1 q.1 q.2 && av_rokB r.2.2.2.2.1 q.2 && (if av_kd q.2 = 2 then av_cokB r.1 r.2.2.2.2.2.2.2.1 r.2.2.2.2.2.2.2.2.1 q.2 else true))
theorem av_dokB_ok {r : av_Mr} (h : av_dokB r = true) : av_dok av_TT r := by
  intro q hq
  have h1 := List.all_eq_true.mp h q hq
  simp only [Bool.and_eq_true] at h1
  refine ⟨av_okB_ok h1.1.1, av_rokB_ok h1.1.2, fun hk => av_cokB_ok ?_⟩
  have h2 := h1.2
  rw [if_pos hk] at h2
  exact h2
