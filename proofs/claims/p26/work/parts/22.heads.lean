/-! THE TABLE HOLDS: methods -/
theorem av_memL {w : Cond} {i : Nat} (h : (k2_sels lw_privs)[i]? = some w) : w ∈ lw_tbl := List.mem_append_left _ (List.mem_of_getElem? h)
set_option maxRecDepth 100000 in
set_option maxHeartbeats 2000000 in
theorem hk_0 : av_hok ms_0 := ⟨by decide +kernel, rfl, av_m1 (i := 187) rfl, av_m1 (i := 11) rfl, ⟨by decide +kernel, by decide +kernel⟩, by decide +kernel, Or.inr (Or.inl ⟨rfl, rfl, av_m1 (i := 186) rfl, rfl⟩)⟩
set_option maxRecDepth 100000 in
set_option maxHeartbeats 2000000 in
theorem hk_1 : av_hok ms_1 := ⟨by decide +kernel, rfl, av_m3 (i := 117) rfl, av_m1 (i := 11) rfl, ⟨by decide +kernel, by decide +kernel⟩, by decide +kernel, Or.inl ⟨rfl, by decide, av_m3 (i := 115) rfl, av_m3 (i := 116) rfl⟩⟩
set_option maxRecDepth 100000 in
set_option maxHeartbeats 2000000 in
theorem hk_2 : av_hok ms_2 := ⟨by decide +kernel, rfl, av_m3 (i := 179) rfl, av_m1 (i := 11) rfl, ⟨by decide +kernel, by decide +kernel⟩, by decide +kernel, Or.inl ⟨rfl, by decide, av_m3 (i := 177) rfl, av_m3 (i := 178) rfl⟩⟩
set_option maxRecDepth 100000 in
set_option maxHeartbeats 2000000 in
theorem hk_3 : av_hok ms_3 := ⟨by decide +kernel, rfl, av_m3 (i := 222) rfl, av_m1 (i := 11) rfl, ⟨by decide +kernel, by decide +kernel⟩, by decide +kernel, Or.inl ⟨rfl, by decide, av_m3 (i := 220) rfl, av_m3 (i := 221) rfl⟩⟩
set_option maxRecDepth 100000 in
set_option maxHeartbeats 2000000 in
theorem hk_4 : av_hok ms_4 := ⟨by decide +kernel, rfl, av_m3 (i := 128) rfl, av_m1 (i := 11) rfl, ⟨by decide +kernel, by decide +kernel⟩, by decide +kernel, Or.inl ⟨rfl, by decide, av_m3 (i := 126) rfl, av_m3 (i := 127) rfl⟩⟩
set_option maxRecDepth 100000 in
set_option maxHeartbeats 2000000 in
theorem hk_5 : av_hok ms_5 := ⟨by decide +kernel, rfl, av_m3 (i := 133) rfl, av_m1 (i := 11) rfl, ⟨by decide +kernel, by decide +kernel⟩, by decide +kernel, Or.inl ⟨rfl, by decide, av_m3 (i := 132) rfl, av_memL (i := 12) rfl⟩⟩
set_option maxRecDepth 100000 in
set_option maxHeartbeats 2000000 in
theorem hk_6 : av_hok ms_6 := ⟨by decide +kernel, rfl, av_m3 (i := 137) rfl, av_m1 (i := 11) rfl, ⟨by decide +kernel, by decide +kernel⟩, by decide +kernel, Or.inl ⟨rfl, by decide, av_m3 (i := 135) rfl, av_m3 (i := 136) rfl⟩⟩
set_option maxRecDepth 100000 in
set_option maxHeartbeats 2000000 in
theorem hk_7 : av_hok ms_7 := ⟨by decide +kernel, rfl, av_m3 (i := 184) rfl, av_m1 (i := 11) rfl, ⟨by decide +kernel, by decide +kernel⟩, by decide +kernel, Or.inl ⟨rfl, by decide, av_m3 (i := 183) rfl, av_memL (i := 16) rfl⟩⟩
set_option maxRecDepth 100000 in
set_option maxHeartbeats 2000000 in
theorem hk_8 : av_hok ms_8 := ⟨by decide +kernel, rfl, av_m3 (i := 189) rfl, av_m1 (i := 11) rfl, ⟨by decide +kernel, by decide +kernel⟩, by decide +kernel, Or.inl ⟨rfl, by decide, av_m3 (i := 188) rfl, av_memL (i := 17) rfl⟩⟩
set_option maxRecDepth 100000 in
set_option maxHeartbeats 2000000 in
theorem hk_9 : av_hok ms_9 := ⟨by decide +kernel, rfl, av_m3 (i := 193) rfl, av_m1 (i := 11) rfl, ⟨by decide +kernel, by decide +kernel⟩, by decide +kernel, Or.inl ⟨rfl, by decide, av_m3 (i := 192) rfl, av_memL (i := 18) rfl⟩⟩
set_option maxRecDepth 100000 in
set_option maxHeartbeats 2000000 in
theorem hk_10 : av_hok ms_10 := ⟨by decide +kernel, rfl, av_m3 (i := 198) rfl, av_m1 (i := 11) rfl, ⟨by decide +kernel, by decide +kernel⟩, by decide +kernel, Or.inl ⟨rfl, by decide, av_m3 (i := 197) rfl, av_memL (i := 19) rfl⟩⟩
set_option maxRecDepth 100000 in
set_option maxHeartbeats 2000000 in
theorem hk_11 : av_hok ms_11 := ⟨by decide +kernel, rfl, av_m3 (i := 202) rfl, av_m1 (i := 11) rfl, ⟨by decide +kernel, by decide +kernel⟩, by decide +kernel, Or.inl ⟨rfl, by decide, av_m3 (i := 201) rfl, av_memL (i := 20) rfl⟩⟩
set_option maxRecDepth 100000 in
set_option maxHeartbeats 2000000 in
theorem hk_12 : av_hok ms_12 := ⟨by decide +kernel, rfl, av_m3 (i := 206) rfl, av_m1 (i := 11) rfl, ⟨by decide +kernel, by decide +kernel⟩, by decide +kernel, Or.inl ⟨rfl, by decide, av_m3 (i := 205) rfl, av_memL (i := 21) rfl⟩⟩
set_option maxRecDepth 100000 in
set_option maxHeartbeats 2000000 in
theorem hk_13 : av_hok ms_13 := ⟨by decide +kernel, rfl, av_m3 (i := 210) rfl, av_m1 (i := 11) rfl, ⟨by decide +kernel, by decide +kernel⟩, by decide +kernel, Or.inl ⟨rfl, by decide, av_m3 (i := 209) rfl, av_memL (i := 22) rfl⟩⟩
set_option maxRecDepth 100000 in
set_option maxHeartbeats 2000000 in
theorem hk_14 : av_hok ms_14 := ⟨by decide +kernel, rfl, av_m3 (i := 218) rfl, av_m1 (i := 11) rfl, ⟨by decide +kernel, by decide +kernel⟩, by decide +kernel, Or.inl ⟨rfl, by decide, av_m3 (i := 217) rfl, av_memL (i := 24) rfl⟩⟩
set_option maxRecDepth 100000 in
set_option maxHeartbeats 2000000 in
theorem hk_15 : av_hok ms_15 := ⟨by decide +kernel, rfl, av_m3 (i := 238) rfl, av_m1 (i := 11) rfl, ⟨by decide +kernel, by decide +kernel⟩, by decide +kernel, Or.inl ⟨rfl, by decide, av_m3 (i := 236) rfl, av_m3 (i := 237) rfl⟩⟩
set_option maxRecDepth 100000 in
set_option maxHeartbeats 2000000 in
theorem hk_16 : av_hok ms_16 := ⟨by decide +kernel, rfl, av_m3 (i := 214) rfl, av_m1 (i := 11) rfl, ⟨by decide +kernel, by decide +kernel⟩, by decide +kernel, Or.inl ⟨rfl, by decide, av_m3 (i := 213) rfl, av_memL (i := 23) rfl⟩⟩
set_option maxRecDepth 100000 in
set_option maxHeartbeats 2000000 in
theorem hk_17 : av_hok ms_17 := ⟨by decide +kernel, rfl, av_m3 (i := 226) rfl, av_m1 (i := 11) rfl, ⟨by decide +kernel, by decide +kernel⟩, by decide +kernel, Or.inl ⟨rfl, by decide, av_m3 (i := 224) rfl, av_m3 (i := 225) rfl⟩⟩
set_option maxRecDepth 100000 in
set_option maxHeartbeats 2000000 in
theorem hk_18 : av_hok ms_18 := ⟨by decide +kernel, rfl, av_m4 (i := 7) rfl, av_m1 (i := 11) rfl, ⟨by decide +kernel, by decide +kernel⟩, by decide +kernel, Or.inl ⟨rfl, by decide, av_m4 (i := 5) rfl, av_m4 (i := 6) rfl⟩⟩
set_option maxRecDepth 100000 in
set_option maxHeartbeats 2000000 in
theorem hk_19 : av_hok ms_19 := ⟨by decide +kernel, rfl, av_m4 (i := 46) rfl, av_m1 (i := 11) rfl, ⟨by decide +kernel, by decide +kernel⟩, by decide +kernel, Or.inl ⟨rfl, by decide, av_m4 (i := 44) rfl, av_m4 (i := 45) rfl⟩⟩
set_option maxRecDepth 100000 in
set_option maxHeartbeats 2000000 in
theorem hk_20 : av_hok ms_20 := ⟨by decide +kernel, rfl, av_m4 (i := 51) rfl, av_m1 (i := 11) rfl, ⟨by decide +kernel, by decide +kernel⟩, by decide +kernel, Or.inl ⟨rfl, by decide, av_m4 (i := 50) rfl, av_memL (i := 27) rfl⟩⟩
set_option maxRecDepth 100000 in
set_option maxHeartbeats 2000000 in
theorem hk_21 : av_hok ms_21 := ⟨by decide +kernel, rfl, av_m4 (i := 108) rfl, av_m1 (i := 11) rfl, ⟨by decide +kernel, by decide +kernel⟩, by decide +kernel, Or.inl ⟨rfl, by decide, av_m4 (i := 106) rfl, av_m4 (i := 107) rfl⟩⟩
set_option maxRecDepth 100000 in
set_option maxHeartbeats 2000000 in
theorem hk_22 : av_hok ms_22 := ⟨by decide +kernel, rfl, av_m4 (i := 112) rfl, av_m1 (i := 11) rfl, ⟨by decide +kernel, by decide +kernel⟩, by decide +kernel, Or.inl ⟨rfl, by decide, av_m4 (i := 111) rfl, av_memL (i := 29) rfl⟩⟩
set_option maxRecDepth 100000 in
set_option maxHeartbeats 2000000 in
theorem hk_23 : av_hok ms_23 := ⟨by decide +kernel, rfl, av_m4 (i := 123) rfl, av_m1 (i := 11) rfl, ⟨by decide +kernel, by decide +kernel⟩, by decide +kernel, Or.inl ⟨rfl, by decide, av_m4 (i := 121) rfl, av_m4 (i := 122) rfl⟩⟩
set_option maxRecDepth 100000 in
set_option maxHeartbeats 2000000 in
theorem hk_24 : av_hok ms_24 := ⟨by decide +kernel, rfl, av_m4 (i := 140) rfl, av_m1 (i := 11) rfl, ⟨by decide +kernel, by decide +kernel⟩, by decide +kernel, Or.inl ⟨rfl, by decide, av_m4 (i := 138) rfl, av_m4 (i := 139) rfl⟩⟩
set_option maxRecDepth 100000 in
set_option maxHeartbeats 2000000 in
theorem hk_25 : av_hok ms_25 := ⟨by decide +kernel, rfl, av_m4 (i := 127) rfl, av_m1 (i := 11) rfl, ⟨by decide +kernel, by decide +kernel⟩, by decide +kernel, Or.inl ⟨rfl, by decide, av_m4 (i := 126) rfl, av_memL (i := 30) rfl⟩⟩
set_option maxRecDepth 100000 in
set_option maxHeartbeats 2000000 in
theorem hk_26 : av_hok ms_26 := ⟨by decide +kernel, rfl, av_m4 (i := 132) rfl, av_m1 (i := 11) rfl, ⟨by decide +kernel, by decide +kernel⟩, by decide +kernel, Or.inl ⟨rfl, by decide, av_m4 (i := 131) rfl, av_memL (i := 31) rfl⟩⟩
set_option maxRecDepth 100000 in
set_option maxHeartbeats 2000000 in
theorem hk_27 : av_hok ms_27 := ⟨by decide +kernel, rfl, av_m1 (i := 137) rfl, av_m1 (i := 7) rfl, ⟨by decide +kernel, by decide +kernel⟩, by decide +kernel, Or.inr (Or.inl ⟨rfl, rfl, av_m1 (i := 136) rfl, rfl⟩)⟩
set_option maxRecDepth 100000 in
set_option maxHeartbeats 2000000 in
theorem hk_28 : av_hok ms_28 := ⟨by decide +kernel, rfl, av_m3 (i := 96) rfl, av_m1 (i := 7) rfl, ⟨by decide +kernel, by decide +kernel⟩, by decide +kernel, Or.inl ⟨rfl, by decide, av_m3 (i := 94) rfl, av_m3 (i := 95) rfl⟩⟩
set_option maxRecDepth 100000 in
set_option maxHeartbeats 2000000 in
theorem hk_29 : av_hok ms_29 := ⟨by decide +kernel, rfl, av_m3 (i := 100) rfl, av_m1 (i := 7) rfl, ⟨by decide +kernel, by decide +kernel⟩, by decide +kernel, Or.inl ⟨rfl, by decide, av_m3 (i := 98) rfl, av_m3 (i := 99) rfl⟩⟩
set_option maxRecDepth 100000 in
set_option maxHeartbeats 2000000 in
theorem hk_30 : av_hok ms_30 := ⟨by decide +kernel, rfl, av_m3 (i := 123) rfl, av_m1 (i := 7) rfl, ⟨by decide +kernel, by decide +kernel⟩, by decide +kernel, Or.inl ⟨rfl, by decide, av_m3 (i := 121) rfl, av_m3 (i := 122) rfl⟩⟩
set_option maxRecDepth 100000 in
set_option maxHeartbeats 2000000 in
theorem hk_31 : av_hok ms_31 := ⟨by decide +kernel, rfl, av_m3 (i := 230) rfl, av_m1 (i := 7) rfl, ⟨by decide +kernel, by decide +kernel⟩, by decide +kernel, Or.inl ⟨rfl, by decide, av_m3 (i := 228) rfl, av_m3 (i := 229) rfl⟩⟩
set_option maxRecDepth 100000 in
set_option maxHeartbeats 2000000 in
theorem hk_32 : av_hok ms_32 := ⟨by decide +kernel, rfl, av_m4 (i := 148) rfl, av_m1 (i := 7) rfl, ⟨by decide +kernel, by decide +kernel⟩, by decide +kernel, Or.inl ⟨rfl, by decide, av_m4 (i := 146) rfl, av_m4 (i := 147) rfl⟩⟩
set_option maxRecDepth 100000 in
set_option maxHeartbeats 2000000 in
theorem hk_33 : av_hok ms_33 := ⟨by decide +kernel, rfl, av_m4 (i := 165) rfl, av_m1 (i := 7) rfl, ⟨by decide +kernel, by decide +kernel⟩, by decide +kernel, Or.inl ⟨rfl, by decide, av_m4 (i := 163) rfl, av_m4 (i := 164) rfl⟩⟩
set_option maxRecDepth 100000 in
set_option maxHeartbeats 2000000 in
theorem hk_34 : av_hok ms_34 := ⟨by decide +kernel, rfl, av_m1 (i := 101) rfl, av_m1 (i := 4) rfl, ⟨by decide +kernel, by decide +kernel⟩, by decide +kernel, Or.inr (Or.inl ⟨rfl, rfl, av_m1 (i := 100) rfl, rfl⟩)⟩
set_option maxRecDepth 100000 in
set_option maxHeartbeats 2000000 in
theorem hk_35 : av_hok ms_35 := ⟨by decide +kernel, rfl, av_m2 (i := 104) rfl, av_m1 (i := 4) rfl, ⟨by decide +kernel, by decide +kernel⟩, by decide +kernel, Or.inl ⟨rfl, by decide, av_m2 (i := 102) rfl, av_m2 (i := 103) rfl⟩⟩
set_option maxRecDepth 100000 in
set_option maxHeartbeats 2000000 in
theorem hk_36 : av_hok ms_36 := ⟨by decide +kernel, rfl, av_m2 (i := 118) rfl, av_m1 (i := 4) rfl, ⟨by decide +kernel, by decide +kernel⟩, by decide +kernel, Or.inl ⟨rfl, by decide, av_m2 (i := 117) rfl, av_memL (i := 0) rfl⟩⟩
set_option maxRecDepth 100000 in
set_option maxHeartbeats 2000000 in
theorem hk_37 : av_hok ms_37 := ⟨by decide +kernel, rfl, av_m2 (i := 187) rfl, av_m1 (i := 4) rfl, ⟨by decide +kernel, by decide +kernel⟩, by decide +kernel, Or.inl ⟨rfl, by decide, av_m2 (i := 186) rfl, av_memL (i := 1) rfl⟩⟩
set_option maxRecDepth 100000 in
set_option maxHeartbeats 2000000 in
theorem hk_38 : av_hok ms_38 := ⟨by decide +kernel, rfl, av_m2 (i := 192) rfl, av_m1 (i := 4) rfl, ⟨by decide +kernel, by decide +kernel⟩, by decide +kernel, Or.inl ⟨rfl, by decide, av_m2 (i := 191) rfl, av_memL (i := 2) rfl⟩⟩
set_option maxRecDepth 100000 in
set_option maxHeartbeats 2000000 in
theorem hk_39 : av_hok ms_39 := ⟨by decide +kernel, rfl, av_m2 (i := 200) rfl, av_m1 (i := 4) rfl, ⟨by decide +kernel, by decide +kernel⟩, by decide +kernel, Or.inl ⟨rfl, by decide, av_m2 (i := 199) rfl, av_memL (i := 3) rfl⟩⟩
set_option maxRecDepth 100000 in
set_option maxHeartbeats 2000000 in
theorem hk_40 : av_hok ms_40 := ⟨by decide +kernel, rfl, av_m2 (i := 205) rfl, av_m1 (i := 4) rfl, ⟨by decide +kernel, by decide +kernel⟩, by decide +kernel, Or.inl ⟨rfl, by decide, av_m2 (i := 204) rfl, av_memL (i := 4) rfl⟩⟩
set_option maxRecDepth 100000 in
set_option maxHeartbeats 2000000 in
theorem hk_41 : av_hok ms_41 := ⟨by decide +kernel, rfl, av_m2 (i := 226) rfl, av_m1 (i := 4) rfl, ⟨by decide +kernel, by decide +kernel⟩, by decide +kernel, Or.inl ⟨rfl, by decide, av_m2 (i := 225) rfl, av_memL (i := 6) rfl⟩⟩
set_option maxRecDepth 100000 in
set_option maxHeartbeats 2000000 in
theorem hk_42 : av_hok ms_42 := ⟨by decide +kernel, rfl, av_m2 (i := 209) rfl, av_m1 (i := 4) rfl, ⟨by decide +kernel, by decide +kernel⟩, by decide +kernel, Or.inl ⟨rfl, by decide, av_m2 (i := 208) rfl, av_memL (i := 5) rfl⟩⟩
set_option maxRecDepth 100000 in
set_option maxHeartbeats 2000000 in
theorem hk_43 : av_hok ms_43 := ⟨by decide +kernel, rfl, av_m2 (i := 230) rfl, av_m1 (i := 4) rfl, ⟨by decide +kernel, by decide +kernel⟩, by decide +kernel, Or.inl ⟨rfl, by decide, av_m2 (i := 229) rfl, av_memL (i := 7) rfl⟩⟩
set_option maxRecDepth 100000 in
set_option maxHeartbeats 2000000 in
theorem hk_44 : av_hok ms_44 := ⟨by decide +kernel, rfl, av_m3 (i := 0) rfl, av_m1 (i := 4) rfl, ⟨by decide +kernel, by decide +kernel⟩, by decide +kernel, Or.inl ⟨rfl, by decide, av_m2 (i := 239) rfl, av_memL (i := 8) rfl⟩⟩
set_option maxRecDepth 100000 in
set_option maxHeartbeats 2000000 in
theorem hk_45 : av_hok ms_45 := ⟨by decide +kernel, rfl, av_m1 (i := 131) rfl, av_m1 (i := 6) rfl, ⟨by decide +kernel, by decide +kernel⟩, by decide +kernel, Or.inr (Or.inl ⟨rfl, rfl, av_m1 (i := 130) rfl, rfl⟩)⟩
set_option maxRecDepth 100000 in
set_option maxHeartbeats 2000000 in
theorem hk_46 : av_hok ms_46 := ⟨by decide +kernel, rfl, av_m3 (i := 30) rfl, av_m1 (i := 6) rfl, ⟨by decide +kernel, by decide +kernel⟩, by decide +kernel, Or.inl ⟨rfl, by decide, av_m3 (i := 28) rfl, av_m3 (i := 29) rfl⟩⟩
set_option maxRecDepth 100000 in
set_option maxHeartbeats 2000000 in
theorem hk_47 : av_hok ms_47 := ⟨by decide +kernel, rfl, av_m3 (i := 113) rfl, av_m1 (i := 6) rfl, ⟨by decide +kernel, by decide +kernel⟩, by decide +kernel, Or.inl ⟨rfl, by decide, av_m3 (i := 111) rfl, av_m3 (i := 112) rfl⟩⟩
set_option maxRecDepth 100000 in
set_option maxHeartbeats 2000000 in
theorem hk_48 : av_hok ms_48 := ⟨by decide +kernel, rfl, av_m3 (i := 153) rfl, av_m1 (i := 6) rfl, ⟨by decide +kernel, by decide +kernel⟩, by decide +kernel, Or.inl ⟨rfl, by decide, av_m3 (i := 151) rfl, av_m3 (i := 152) rfl⟩⟩
set_option maxRecDepth 100000 in
set_option maxHeartbeats 2000000 in
theorem hk_49 : av_hok ms_49 := ⟨by decide +kernel, rfl, av_m4 (i := 15) rfl, av_m1 (i := 6) rfl, ⟨by decide +kernel, by decide +kernel⟩, by decide +kernel, Or.inl ⟨rfl, by decide, av_m4 (i := 13) rfl, av_m4 (i := 14) rfl⟩⟩
set_option maxRecDepth 100000 in
set_option maxHeartbeats 2000000 in
theorem hk_50 : av_hok ms_50 := ⟨by decide +kernel, rfl, av_m4 (i := 63) rfl, av_m1 (i := 6) rfl, ⟨by decide +kernel, by decide +kernel⟩, by decide +kernel, Or.inl ⟨rfl, by decide, av_m4 (i := 61) rfl, av_m4 (i := 62) rfl⟩⟩
set_option maxRecDepth 100000 in
set_option maxHeartbeats 2000000 in
theorem hk_51 : av_hok ms_51 := ⟨by decide +kernel, rfl, av_m3 (i := 158) rfl, av_m1 (i := 6) rfl, ⟨by decide +kernel, by decide +kernel⟩, by decide +kernel, Or.inl ⟨rfl, by decide, av_m3 (i := 156) rfl, av_m3 (i := 157) rfl⟩⟩
set_option maxRecDepth 100000 in
set_option maxHeartbeats 2000000 in
theorem hk_52 : av_hok ms_52 := ⟨by decide +kernel, rfl, av_m3 (i := 163) rfl, av_m1 (i := 6) rfl, ⟨by decide +kernel, by decide +kernel⟩, by decide +kernel, Or.inl ⟨rfl, by decide, av_m3 (i := 162) rfl, av_memL (i := 13) rfl⟩⟩
set_option maxRecDepth 100000 in
set_option maxHeartbeats 2000000 in
theorem hk_53 : av_hok ms_53 := ⟨by decide +kernel, rfl, av_m3 (i := 167) rfl, av_m1 (i := 6) rfl, ⟨by decide +kernel, by decide +kernel⟩, by decide +kernel, Or.inl ⟨rfl, by decide, av_m3 (i := 166) rfl, av_memL (i := 14) rfl⟩⟩
set_option maxRecDepth 100000 in
set_option maxHeartbeats 2000000 in
theorem hk_54 : av_hok ms_54 := ⟨by decide +kernel, rfl, av_m3 (i := 171) rfl, av_m1 (i := 6) rfl, ⟨by decide +kernel, by decide +kernel⟩, by decide +kernel, Or.inl ⟨rfl, by decide, av_m3 (i := 170) rfl, av_memL (i := 15) rfl⟩⟩
set_option maxRecDepth 100000 in
set_option maxHeartbeats 2000000 in
theorem hk_55 : av_hok ms_55 := ⟨by decide +kernel, rfl, av_m3 (i := 175) rfl, av_m1 (i := 6) rfl, ⟨by decide +kernel, by decide +kernel⟩, by decide +kernel, Or.inr (Or.inr ⟨rfl, av_m3 (i := 174) rfl⟩)⟩
set_option maxRecDepth 100000 in
set_option maxHeartbeats 2000000 in
theorem hk_56 : av_hok ms_56 := ⟨by decide +kernel, rfl, av_m4 (i := 19) rfl, av_m1 (i := 6) rfl, ⟨by decide +kernel, by decide +kernel⟩, by decide +kernel, Or.inl ⟨rfl, by decide, av_m4 (i := 17) rfl, av_m4 (i := 18) rfl⟩⟩
set_option maxRecDepth 100000 in
set_option maxHeartbeats 2000000 in
theorem hk_57 : av_hok ms_57 := ⟨by decide +kernel, rfl, av_m4 (i := 24) rfl, av_m1 (i := 6) rfl, ⟨by decide +kernel, by decide +kernel⟩, by decide +kernel, Or.inl ⟨rfl, by decide, av_m4 (i := 23) rfl, av_memL (i := 25) rfl⟩⟩
set_option maxRecDepth 100000 in
set_option maxHeartbeats 2000000 in
theorem hk_58 : av_hok ms_58 := ⟨by decide +kernel, rfl, av_m4 (i := 34) rfl, av_m1 (i := 6) rfl, ⟨by decide +kernel, by decide +kernel⟩, by decide +kernel, Or.inl ⟨rfl, by decide, av_m4 (i := 32) rfl, av_m4 (i := 33) rfl⟩⟩
set_option maxRecDepth 100000 in
set_option maxHeartbeats 2000000 in
theorem hk_59 : av_hok ms_59 := ⟨by decide +kernel, rfl, av_m4 (i := 38) rfl, av_m1 (i := 6) rfl, ⟨by decide +kernel, by decide +kernel⟩, by decide +kernel, Or.inl ⟨rfl, by decide, av_m4 (i := 37) rfl, av_memL (i := 26) rfl⟩⟩
set_option maxRecDepth 100000 in
set_option maxHeartbeats 2000000 in
theorem hk_60 : av_hok ms_60 := ⟨by decide +kernel, rfl, av_m4 (i := 67) rfl, av_m1 (i := 6) rfl, ⟨by decide +kernel, by decide +kernel⟩, by decide +kernel, Or.inl ⟨rfl, by decide, av_m4 (i := 65) rfl, av_m4 (i := 66) rfl⟩⟩
set_option maxRecDepth 100000 in
set_option maxHeartbeats 2000000 in
theorem hk_61 : av_hok ms_61 := ⟨by decide +kernel, rfl, av_m4 (i := 77) rfl, av_m1 (i := 6) rfl, ⟨by decide +kernel, by decide +kernel⟩, by decide +kernel, Or.inl ⟨rfl, by decide, av_m4 (i := 75) rfl, av_m4 (i := 76) rfl⟩⟩
set_option maxRecDepth 100000 in
set_option maxHeartbeats 2000000 in
theorem hk_62 : av_hok ms_62 := ⟨by decide +kernel, rfl, av_m4 (i := 71) rfl, av_m1 (i := 6) rfl, ⟨by decide +kernel, by decide +kernel⟩, by decide +kernel, Or.inl ⟨rfl, by decide, av_m4 (i := 70) rfl, av_memL (i := 28) rfl⟩⟩
set_option maxRecDepth 100000 in
set_option maxHeartbeats 2000000 in
theorem hk_63 : av_hok ms_63 := ⟨by decide +kernel, rfl, av_m4 (i := 95) rfl, av_m1 (i := 6) rfl, ⟨by decide +kernel, by decide +kernel⟩, by decide +kernel, Or.inl ⟨rfl, by decide, av_m4 (i := 93) rfl, av_m4 (i := 94) rfl⟩⟩
set_option maxRecDepth 100000 in
set_option maxHeartbeats 2000000 in
theorem hk_64 : av_hok ms_64 := ⟨by decide +kernel, rfl, av_m1 (i := 117) rfl, av_m1 (i := 5) rfl, ⟨by decide +kernel, by decide +kernel⟩, by decide +kernel, Or.inr (Or.inl ⟨rfl, rfl, av_m1 (i := 116) rfl, rfl⟩)⟩
set_option maxRecDepth 100000 in
set_option maxHeartbeats 2000000 in
theorem hk_65 : av_hok ms_65 := ⟨by decide +kernel, rfl, av_m3 (i := 41) rfl, av_m1 (i := 5) rfl, ⟨by decide +kernel, by decide +kernel⟩, by decide +kernel, Or.inl ⟨rfl, by decide, av_m3 (i := 39) rfl, av_m3 (i := 40) rfl⟩⟩
set_option maxRecDepth 100000 in
set_option maxHeartbeats 2000000 in
theorem hk_66 : av_hok ms_66 := ⟨by decide +kernel, rfl, av_m3 (i := 48) rfl, av_m1 (i := 5) rfl, ⟨by decide +kernel, by decide +kernel⟩, by decide +kernel, Or.inl ⟨rfl, by decide, av_m3 (i := 47) rfl, av_memL (i := 10) rfl⟩⟩
set_option maxRecDepth 100000 in
set_option maxHeartbeats 2000000 in
theorem hk_67 : av_hok ms_67 := ⟨by decide +kernel, rfl, av_m3 (i := 54) rfl, av_m1 (i := 5) rfl, ⟨by decide +kernel, by decide +kernel⟩, by decide +kernel, Or.inl ⟨rfl, by decide, av_m3 (i := 53) rfl, av_memL (i := 11) rfl⟩⟩
set_option maxRecDepth 100000 in
set_option maxHeartbeats 2000000 in
theorem hk_68 : av_hok ms_68 := ⟨by decide +kernel, rfl, av_m1 (i := 63) rfl, av_m1 (i := 3) rfl, ⟨by decide +kernel, by decide +kernel⟩, by decide +kernel, Or.inr (Or.inl ⟨rfl, rfl, av_m1 (i := 62) rfl, rfl⟩)⟩
set_option maxRecDepth 100000 in
set_option maxHeartbeats 2000000 in
theorem hk_69 : av_hok ms_69 := ⟨by decide +kernel, rfl, av_m3 (i := 26) rfl, av_m1 (i := 3) rfl, ⟨by decide +kernel, by decide +kernel⟩, by decide +kernel, Or.inl ⟨rfl, by decide, av_m3 (i := 24) rfl, av_m3 (i := 25) rfl⟩⟩
set_option maxRecDepth 100000 in
set_option maxHeartbeats 2000000 in
theorem hk_70 : av_hok ms_70 := ⟨by decide +kernel, rfl, av_m3 (i := 145) rfl, av_m1 (i := 3) rfl, ⟨by decide +kernel, by decide +kernel⟩, by decide +kernel, Or.inl ⟨rfl, by decide, av_m3 (i := 143) rfl, av_m3 (i := 144) rfl⟩⟩
set_option maxRecDepth 100000 in
set_option maxHeartbeats 2000000 in
theorem hk_71 : av_hok ms_71 := ⟨by decide +kernel, rfl, av_m3 (i := 18) rfl, av_m1 (i := 3) rfl, ⟨by decide +kernel, by decide +kernel⟩, by decide +kernel, Or.inl ⟨rfl, by decide, av_m3 (i := 16) rfl, av_m3 (i := 17) rfl⟩⟩
set_option maxRecDepth 100000 in
set_option maxHeartbeats 2000000 in
theorem hk_72 : av_hok ms_72 := ⟨by decide +kernel, rfl, av_m3 (i := 67) rfl, av_m1 (i := 3) rfl, ⟨by decide +kernel, by decide +kernel⟩, by decide +kernel, Or.inl ⟨rfl, by decide, av_m3 (i := 65) rfl, av_m3 (i := 66) rfl⟩⟩
set_option maxRecDepth 100000 in
set_option maxHeartbeats 2000000 in
theorem hk_73 : av_hok ms_73 := ⟨by decide +kernel, rfl, av_m3 (i := 81) rfl, av_m1 (i := 3) rfl, ⟨by decide +kernel, by decide +kernel⟩, by decide +kernel, Or.inl ⟨rfl, by decide, av_m3 (i := 79) rfl, av_m3 (i := 80) rfl⟩⟩
set_option maxRecDepth 100000 in
set_option maxHeartbeats 2000000 in
theorem hk_74 : av_hok ms_74 := ⟨by decide +kernel, rfl, av_m3 (i := 73) rfl, av_m1 (i := 3) rfl, ⟨by decide +kernel, by decide +kernel⟩, by decide +kernel, Or.inr (Or.inr ⟨rfl, av_m3 (i := 72) rfl⟩)⟩
set_option maxRecDepth 100000 in
set_option maxHeartbeats 2000000 in
theorem hk_75 : av_hok ms_75 := ⟨by decide +kernel, rfl, av_m4 (i := 99) rfl, av_m1 (i := 3) rfl, ⟨by decide +kernel, by decide +kernel⟩, by decide +kernel, Or.inl ⟨rfl, by decide, av_m4 (i := 97) rfl, av_m4 (i := 98) rfl⟩⟩
set_option maxRecDepth 100000 in
set_option maxHeartbeats 2000000 in
theorem hk_76 : av_hok ms_76 := ⟨by decide +kernel, rfl, av_m4 (i := 186) rfl, av_m1 (i := 3) rfl, ⟨by decide +kernel, by decide +kernel⟩, by decide +kernel, Or.inl ⟨rfl, by decide, av_m4 (i := 184) rfl, av_m4 (i := 185) rfl⟩⟩
set_option maxRecDepth 100000 in
set_option maxHeartbeats 2000000 in
theorem hk_77 : av_hok ms_77 := ⟨by decide +kernel, rfl, av_m4 (i := 174) rfl, av_m1 (i := 3) rfl, ⟨by decide +kernel, by decide +kernel⟩, by decide +kernel, Or.inl ⟨rfl, by decide, av_m4 (i := 172) rfl, av_m4 (i := 173) rfl⟩⟩
set_option maxRecDepth 100000 in
set_option maxHeartbeats 2000000 in
theorem hk_78 : av_hok ms_78 := ⟨by decide +kernel, rfl, av_m1 (i := 30) rfl, av_m1 (i := 2) rfl, ⟨by decide +kernel, by decide +kernel⟩, by decide +kernel, Or.inr (Or.inl ⟨rfl, rfl, av_m1 (i := 29) rfl, rfl⟩)⟩
set_option maxRecDepth 100000 in
set_option maxHeartbeats 2000000 in
theorem hk_79 : av_hok ms_79 := ⟨by decide +kernel, rfl, av_m2 (i := 80) rfl, av_m1 (i := 2) rfl, ⟨by decide +kernel, by decide +kernel⟩, by decide +kernel, Or.inl ⟨rfl, by decide, av_m2 (i := 78) rfl, av_m2 (i := 79) rfl⟩⟩
set_option maxRecDepth 100000 in
set_option maxHeartbeats 2000000 in
theorem hk_80 : av_hok ms_80 := ⟨by decide +kernel, rfl, av_m2 (i := 88) rfl, av_m1 (i := 2) rfl, ⟨by decide +kernel, by decide +kernel⟩, by decide +kernel, Or.inl ⟨rfl, by decide, av_m2 (i := 86) rfl, av_m2 (i := 87) rfl⟩⟩
set_option maxRecDepth 100000 in
set_option maxHeartbeats 2000000 in
theorem hk_81 : av_hok ms_81 := ⟨by decide +kernel, rfl, av_m2 (i := 92) rfl, av_m1 (i := 2) rfl, ⟨by decide +kernel, by decide +kernel⟩, by decide +kernel, Or.inl ⟨rfl, by decide, av_m2 (i := 90) rfl, av_m2 (i := 91) rfl⟩⟩
set_option maxRecDepth 100000 in
set_option maxHeartbeats 2000000 in
theorem hk_82 : av_hok ms_82 := ⟨by decide +kernel, rfl, av_m2 (i := 97) rfl, av_m1 (i := 2) rfl, ⟨by decide +kernel, by decide +kernel⟩, by decide +kernel, Or.inl ⟨rfl, by decide, av_m2 (i := 95) rfl, av_m2 (i := 96) rfl⟩⟩
set_option maxRecDepth 100000 in
set_option maxHeartbeats 2000000 in
theorem hk_83 : av_hok ms_83 := ⟨by decide +kernel, rfl, av_m2 (i := 100) rfl, av_m1 (i := 2) rfl, ⟨by decide +kernel, by decide +kernel⟩, by decide +kernel, Or.inr (Or.inr ⟨rfl, av_m2 (i := 99) rfl⟩)⟩
set_option maxRecDepth 100000 in
set_option maxHeartbeats 2000000 in
theorem hk_84 : av_hok ms_84 := ⟨by decide +kernel, rfl, av_m2 (i := 110) rfl, av_m1 (i := 2) rfl, ⟨by decide +kernel, by decide +kernel⟩, by decide +kernel, Or.inl ⟨rfl, by decide, av_m2 (i := 108) rfl, av_m2 (i := 109) rfl⟩⟩
set_option maxRecDepth 100000 in
set_option maxHeartbeats 2000000 in
theorem hk_85 : av_hok ms_85 := ⟨by decide +kernel, rfl, av_m2 (i := 114) rfl, av_m1 (i := 2) rfl, ⟨by decide +kernel, by decide +kernel⟩, by decide +kernel, Or.inl ⟨rfl, by decide, av_m2 (i := 112) rfl, av_m2 (i := 113) rfl⟩⟩
set_option maxRecDepth 100000 in
set_option maxHeartbeats 2000000 in
theorem hk_86 : av_hok ms_86 := ⟨by decide +kernel, rfl, av_m2 (i := 133) rfl, av_m1 (i := 2) rfl, ⟨by decide +kernel, by decide +kernel⟩, by decide +kernel, Or.inl ⟨rfl, by decide, av_m2 (i := 131) rfl, av_m2 (i := 132) rfl⟩⟩
set_option maxRecDepth 100000 in
set_option maxHeartbeats 2000000 in
theorem hk_87 : av_hok ms_87 := ⟨by decide +kernel, rfl, av_m2 (i := 129) rfl, av_m1 (i := 2) rfl, ⟨by decide +kernel, by decide +kernel⟩, by decide +kernel, Or.inl ⟨rfl, by decide, av_m2 (i := 127) rfl, av_m2 (i := 128) rfl⟩⟩
set_option maxRecDepth 100000 in
set_option maxHeartbeats 2000000 in
theorem hk_88 : av_hok ms_88 := ⟨by decide +kernel, rfl, av_m2 (i := 220) rfl, av_m1 (i := 2) rfl, ⟨by decide +kernel, by decide +kernel⟩, by decide +kernel, Or.inl ⟨rfl, by decide, av_m2 (i := 218) rfl, av_m2 (i := 219) rfl⟩⟩
set_option maxRecDepth 100000 in
set_option maxHeartbeats 2000000 in
theorem hk_89 : av_hok ms_89 := ⟨by decide +kernel, rfl, av_m2 (i := 236) rfl, av_m1 (i := 2) rfl, ⟨by decide +kernel, by decide +kernel⟩, by decide +kernel, Or.inl ⟨rfl, by decide, av_m2 (i := 234) rfl, av_m2 (i := 235) rfl⟩⟩
set_option maxRecDepth 100000 in
set_option maxHeartbeats 2000000 in
theorem hk_90 : av_hok ms_90 := ⟨by decide +kernel, rfl, av_m3 (i := 8) rfl, av_m1 (i := 2) rfl, ⟨by decide +kernel, by decide +kernel⟩, by decide +kernel, Or.inl ⟨rfl, by decide, av_m3 (i := 6) rfl, av_m3 (i := 7) rfl⟩⟩
set_option maxRecDepth 100000 in
set_option maxHeartbeats 2000000 in
theorem hk_91 : av_hok ms_91 := ⟨by decide +kernel, rfl, av_m2 (i := 196) rfl, av_m1 (i := 2) rfl, ⟨by decide +kernel, by decide +kernel⟩, by decide +kernel, Or.inl ⟨rfl, by decide, av_m2 (i := 194) rfl, av_m2 (i := 195) rfl⟩⟩
set_option maxRecDepth 100000 in
set_option maxHeartbeats 2000000 in
theorem hk_92 : av_hok ms_92 := ⟨by decide +kernel, rfl, av_m2 (i := 214) rfl, av_m1 (i := 2) rfl, ⟨by decide +kernel, by decide +kernel⟩, by decide +kernel, Or.inl ⟨rfl, by decide, av_m2 (i := 212) rfl, av_m2 (i := 213) rfl⟩⟩
set_option maxRecDepth 100000 in
set_option maxHeartbeats 2000000 in
theorem hk_93 : av_hok ms_93 := ⟨by decide +kernel, rfl, av_m1 (i := 22) rfl, av_m1 (i := 1) rfl, ⟨by decide +kernel, by decide +kernel⟩, by decide +kernel, Or.inr (Or.inl ⟨rfl, rfl, av_m1 (i := 21) rfl, rfl⟩)⟩
set_option maxRecDepth 100000 in
set_option maxHeartbeats 2000000 in
theorem hk_94 : av_hok ms_94 := ⟨by decide +kernel, rfl, av_m2 (i := 76) rfl, av_m1 (i := 1) rfl, ⟨by decide +kernel, by decide +kernel⟩, by decide +kernel, Or.inl ⟨rfl, by decide, av_m2 (i := 74) rfl, av_m2 (i := 75) rfl⟩⟩
set_option maxRecDepth 100000 in
set_option maxHeartbeats 2000000 in
theorem hk_95 : av_hok ms_95 := ⟨by decide +kernel, rfl, av_m2 (i := 84) rfl, av_m1 (i := 1) rfl, ⟨by decide +kernel, by decide +kernel⟩, by decide +kernel, Or.inl ⟨rfl, by decide, av_m2 (i := 82) rfl, av_m2 (i := 83) rfl⟩⟩
set_option maxRecDepth 100000 in
set_option maxHeartbeats 2000000 in
theorem hk_96 : av_hok ms_96 := ⟨by decide +kernel, rfl, av_m3 (i := 22) rfl, av_m1 (i := 1) rfl, ⟨by decide +kernel, by decide +kernel⟩, by decide +kernel, Or.inl ⟨rfl, by decide, av_m3 (i := 20) rfl, av_m3 (i := 21) rfl⟩⟩
set_option maxRecDepth 100000 in
set_option maxHeartbeats 2000000 in
theorem hk_97 : av_hok ms_97 := ⟨by decide +kernel, rfl, av_m3 (i := 37) rfl, av_m1 (i := 1) rfl, ⟨by decide +kernel, by decide +kernel⟩, by decide +kernel, Or.inl ⟨rfl, by decide, av_m3 (i := 35) rfl, av_m3 (i := 36) rfl⟩⟩
set_option maxRecDepth 100000 in
set_option maxHeartbeats 2000000 in
theorem hk_98 : av_hok ms_98 := ⟨by decide +kernel, rfl, av_m3 (i := 77) rfl, av_m1 (i := 1) rfl, ⟨by decide +kernel, by decide +kernel⟩, by decide +kernel, Or.inl ⟨rfl, by decide, av_m3 (i := 75) rfl, av_m3 (i := 76) rfl⟩⟩
set_option maxRecDepth 100000 in
set_option maxHeartbeats 2000000 in
theorem hk_99 : av_hok ms_99 := ⟨by decide +kernel, rfl, av_m3 (i := 14) rfl, av_m1 (i := 1) rfl, ⟨by decide +kernel, by decide +kernel⟩, by decide +kernel, Or.inl ⟨rfl, by decide, av_m3 (i := 13) rfl, av_memL (i := 9) rfl⟩⟩
set_option maxRecDepth 100000 in
set_option maxHeartbeats 2000000 in
theorem hk_100 : av_hok ms_100 := ⟨by decide +kernel, rfl, av_m3 (i := 85) rfl, av_m1 (i := 1) rfl, ⟨by decide +kernel, by decide +kernel⟩, by decide +kernel, Or.inl ⟨rfl, by decide, av_m3 (i := 83) rfl, av_m3 (i := 84) rfl⟩⟩
set_option maxRecDepth 100000 in
set_option maxHeartbeats 2000000 in
theorem hk_101 : av_hok ms_101 := ⟨by decide +kernel, rfl, av_m3 (i := 89) rfl, av_m1 (i := 1) rfl, ⟨by decide +kernel, by decide +kernel⟩, by decide +kernel, Or.inl ⟨rfl, by decide, av_m3 (i := 87) rfl, av_m3 (i := 88) rfl⟩⟩
set_option maxRecDepth 100000 in
set_option maxHeartbeats 2000000 in
theorem hk_102 : av_hok ms_102 := ⟨by decide +kernel, rfl, av_m3 (i := 92) rfl, av_m1 (i := 1) rfl, ⟨by decide +kernel, by decide +kernel⟩, by decide +kernel, Or.inr (Or.inr ⟨rfl, av_m3 (i := 91) rfl⟩)⟩
set_option maxRecDepth 100000 in
set_option maxHeartbeats 2000000 in
theorem hk_103 : av_hok ms_103 := ⟨by decide +kernel, rfl, av_m3 (i := 105) rfl, av_m1 (i := 1) rfl, ⟨by decide +kernel, by decide +kernel⟩, by decide +kernel, Or.inl ⟨rfl, by decide, av_m3 (i := 103) rfl, av_m3 (i := 104) rfl⟩⟩
set_option maxRecDepth 100000 in
set_option maxHeartbeats 2000000 in
theorem hk_104 : av_hok ms_104 := ⟨by decide +kernel, rfl, av_m3 (i := 109) rfl, av_m1 (i := 1) rfl, ⟨by decide +kernel, by decide +kernel⟩, by decide +kernel, Or.inl ⟨rfl, by decide, av_m3 (i := 107) rfl, av_m3 (i := 108) rfl⟩⟩
set_option maxRecDepth 100000 in
set_option maxHeartbeats 2000000 in
theorem hk_105 : av_hok ms_105 := ⟨by decide +kernel, rfl, av_m3 (i := 141) rfl, av_m1 (i := 1) rfl, ⟨by decide +kernel, by decide +kernel⟩, by decide +kernel, Or.inl ⟨rfl, by decide, av_m3 (i := 139) rfl, av_m3 (i := 140) rfl⟩⟩
set_option maxRecDepth 100000 in
set_option maxHeartbeats 2000000 in
theorem hk_106 : av_hok ms_106 := ⟨by decide +kernel, rfl, av_m3 (i := 149) rfl, av_m1 (i := 1) rfl, ⟨by decide +kernel, by decide +kernel⟩, by decide +kernel, Or.inl ⟨rfl, by decide, av_m3 (i := 147) rfl, av_m3 (i := 148) rfl⟩⟩
set_option maxRecDepth 100000 in
set_option maxHeartbeats 2000000 in
theorem hk_107 : av_hok ms_107 := ⟨by decide +kernel, rfl, av_m3 (i := 234) rfl, av_m1 (i := 1) rfl, ⟨by decide +kernel, by decide +kernel⟩, by decide +kernel, Or.inl ⟨rfl, by decide, av_m3 (i := 232) rfl, av_m3 (i := 233) rfl⟩⟩
set_option maxRecDepth 100000 in
set_option maxHeartbeats 2000000 in
theorem hk_108 : av_hok ms_108 := ⟨by decide +kernel, rfl, av_m4 (i := 3) rfl, av_m1 (i := 1) rfl, ⟨by decide +kernel, by decide +kernel⟩, by decide +kernel, Or.inl ⟨rfl, by decide, av_m4 (i := 1) rfl, av_m4 (i := 2) rfl⟩⟩
set_option maxRecDepth 100000 in
set_option maxHeartbeats 2000000 in
theorem hk_109 : av_hok ms_109 := ⟨by decide +kernel, rfl, av_m4 (i := 11) rfl, av_m1 (i := 1) rfl, ⟨by decide +kernel, by decide +kernel⟩, by decide +kernel, Or.inl ⟨rfl, by decide, av_m4 (i := 9) rfl, av_m4 (i := 10) rfl⟩⟩
set_option maxRecDepth 100000 in
set_option maxHeartbeats 2000000 in
theorem hk_110 : av_hok ms_110 := ⟨by decide +kernel, rfl, av_m4 (i := 30) rfl, av_m1 (i := 1) rfl, ⟨by decide +kernel, by decide +kernel⟩, by decide +kernel, Or.inl ⟨rfl, by decide, av_m4 (i := 28) rfl, av_m4 (i := 29) rfl⟩⟩
set_option maxRecDepth 100000 in
set_option maxHeartbeats 2000000 in
theorem hk_111 : av_hok ms_111 := ⟨by decide +kernel, rfl, av_m4 (i := 42) rfl, av_m1 (i := 1) rfl, ⟨by decide +kernel, by decide +kernel⟩, by decide +kernel, Or.inl ⟨rfl, by decide, av_m4 (i := 40) rfl, av_m4 (i := 41) rfl⟩⟩
set_option maxRecDepth 100000 in
set_option maxHeartbeats 2000000 in
theorem hk_112 : av_hok ms_112 := ⟨by decide +kernel, rfl, av_m4 (i := 55) rfl, av_m1 (i := 1) rfl, ⟨by decide +kernel, by decide +kernel⟩, by decide +kernel, Or.inl ⟨rfl, by decide, av_m4 (i := 53) rfl, av_m4 (i := 54) rfl⟩⟩
set_option maxRecDepth 100000 in
set_option maxHeartbeats 2000000 in
theorem hk_113 : av_hok ms_113 := ⟨by decide +kernel, rfl, av_m4 (i := 59) rfl, av_m1 (i := 1) rfl, ⟨by decide +kernel, by decide +kernel⟩, by decide +kernel, Or.inl ⟨rfl, by decide, av_m4 (i := 57) rfl, av_m4 (i := 58) rfl⟩⟩
set_option maxRecDepth 100000 in
set_option maxHeartbeats 2000000 in
theorem hk_114 : av_hok ms_114 := ⟨by decide +kernel, rfl, av_m4 (i := 81) rfl, av_m1 (i := 1) rfl, ⟨by decide +kernel, by decide +kernel⟩, by decide +kernel, Or.inl ⟨rfl, by decide, av_m4 (i := 79) rfl, av_m4 (i := 80) rfl⟩⟩
set_option maxRecDepth 100000 in
set_option maxHeartbeats 2000000 in
theorem hk_115 : av_hok ms_115 := ⟨by decide +kernel, rfl, av_m4 (i := 85) rfl, av_m1 (i := 1) rfl, ⟨by decide +kernel, by decide +kernel⟩, by decide +kernel, Or.inl ⟨rfl, by decide, av_m4 (i := 83) rfl, av_m4 (i := 84) rfl⟩⟩
set_option maxRecDepth 100000 in
set_option maxHeartbeats 2000000 in
theorem hk_116 : av_hok ms_116 := ⟨by decide +kernel, rfl, av_m4 (i := 104) rfl, av_m1 (i := 1) rfl, ⟨by decide +kernel, by decide +kernel⟩, by decide +kernel, Or.inl ⟨rfl, by decide, av_m4 (i := 102) rfl, av_m4 (i := 103) rfl⟩⟩
set_option maxRecDepth 100000 in
set_option maxHeartbeats 2000000 in
theorem hk_117 : av_hok ms_117 := ⟨by decide +kernel, rfl, av_m4 (i := 116) rfl, av_m1 (i := 1) rfl, ⟨by decide +kernel, by decide +kernel⟩, by decide +kernel, Or.inl ⟨rfl, by decide, av_m4 (i := 114) rfl, av_m4 (i := 115) rfl⟩⟩
set_option maxRecDepth 100000 in
set_option maxHeartbeats 2000000 in
theorem hk_118 : av_hok ms_118 := ⟨by decide +kernel, rfl, av_m4 (i := 136) rfl, av_m1 (i := 1) rfl, ⟨by decide +kernel, by decide +kernel⟩, by decide +kernel, Or.inl ⟨rfl, by decide, av_m4 (i := 134) rfl, av_m4 (i := 135) rfl⟩⟩
set_option maxRecDepth 100000 in
set_option maxHeartbeats 2000000 in
theorem hk_119 : av_hok ms_119 := ⟨by decide +kernel, rfl, av_m4 (i := 119) rfl, av_m1 (i := 1) rfl, ⟨by decide +kernel, by decide +kernel⟩, by decide +kernel, Or.inr (Or.inr ⟨rfl, av_m4 (i := 118) rfl⟩)⟩
set_option maxRecDepth 100000 in
set_option maxHeartbeats 2000000 in
theorem hk_120 : av_hok ms_120 := ⟨by decide +kernel, rfl, av_m4 (i := 144) rfl, av_m1 (i := 1) rfl, ⟨by decide +kernel, by decide +kernel⟩, by decide +kernel, Or.inl ⟨rfl, by decide, av_m4 (i := 142) rfl, av_m4 (i := 143) rfl⟩⟩
set_option maxRecDepth 100000 in
set_option maxHeartbeats 2000000 in
theorem hk_121 : av_hok ms_121 := ⟨by decide +kernel, rfl, av_m4 (i := 161) rfl, av_m1 (i := 1) rfl, ⟨by decide +kernel, by decide +kernel⟩, by decide +kernel, Or.inl ⟨rfl, by decide, av_m4 (i := 159) rfl, av_m4 (i := 160) rfl⟩⟩
set_option maxRecDepth 100000 in
set_option maxHeartbeats 2000000 in
theorem hk_122 : av_hok ms_122 := ⟨by decide +kernel, rfl, av_m4 (i := 156) rfl, av_m1 (i := 1) rfl, ⟨by decide +kernel, by decide +kernel⟩, by decide +kernel, Or.inl ⟨rfl, by decide, av_m4 (i := 155) rfl, av_memL (i := 32) rfl⟩⟩
set_option maxRecDepth 100000 in
set_option maxHeartbeats 2000000 in
theorem hk_123 : av_hok ms_123 := ⟨by decide +kernel, rfl, av_m4 (i := 170) rfl, av_m1 (i := 1) rfl, ⟨by decide +kernel, by decide +kernel⟩, by decide +kernel, Or.inl ⟨rfl, by decide, av_m4 (i := 168) rfl, av_m4 (i := 169) rfl⟩⟩
set_option maxRecDepth 100000 in
set_option maxHeartbeats 2000000 in
theorem hk_124 : av_hok ms_124 := ⟨by decide +kernel, rfl, av_m4 (i := 178) rfl, av_m1 (i := 1) rfl, ⟨by decide +kernel, by decide +kernel⟩, by decide +kernel, Or.inl ⟨rfl, by decide, av_m4 (i := 176) rfl, av_m4 (i := 177) rfl⟩⟩
set_option maxRecDepth 100000 in
set_option maxHeartbeats 2000000 in
theorem hk_125 : av_hok ms_125 := ⟨by decide +kernel, rfl, av_m4 (i := 182) rfl, av_m1 (i := 1) rfl, ⟨by decide +kernel, by decide +kernel⟩, by decide +kernel, Or.inl ⟨rfl, by decide, av_m4 (i := 180) rfl, av_m4 (i := 181) rfl⟩⟩
set_option maxRecDepth 100000 in
set_option maxHeartbeats 2000000 in
theorem hk_126 : av_hok ms_126 := ⟨by decide +kernel, rfl, av_m4 (i := 192) rfl, av_m1 (i := 12) rfl, ⟨by decide +kernel, by decide +kernel⟩, by decide +kernel, Or.inr (Or.inl ⟨rfl, rfl, av_m4 (i := 191) rfl, rfl⟩)⟩
set_option maxRecDepth 100000 in
set_option maxHeartbeats 2000000 in
theorem hk_127 : av_hok ms_127 := ⟨by decide +kernel, rfl, av_m5 (i := 167) rfl, av_m1 (i := 12) rfl, ⟨by decide +kernel, by decide +kernel⟩, by decide +kernel, Or.inr (Or.inr ⟨rfl, av_m5 (i := 166) rfl⟩)⟩
set_option maxRecDepth 100000 in
set_option maxHeartbeats 2000000 in
theorem hk_128 : av_hok ms_128 := ⟨by decide +kernel, rfl, av_m5 (i := 147) rfl, av_m1 (i := 12) rfl, ⟨by decide +kernel, by decide +kernel⟩, by decide +kernel, Or.inl ⟨rfl, by decide, av_m5 (i := 145) rfl, av_m5 (i := 146) rfl⟩⟩
set_option maxRecDepth 100000 in
set_option maxHeartbeats 2000000 in
theorem hk_129 : av_hok ms_129 := ⟨by decide +kernel, rfl, av_m5 (i := 163) rfl, av_m1 (i := 12) rfl, ⟨by decide +kernel, by decide +kernel⟩, by decide +kernel, Or.inl ⟨rfl, by decide, av_m5 (i := 162) rfl, av_memL (i := 35) rfl⟩⟩
set_option maxRecDepth 100000 in
set_option maxHeartbeats 2000000 in
theorem hk_130 : av_hok ms_130 := ⟨by decide +kernel, rfl, av_m5 (i := 159) rfl, av_m1 (i := 12) rfl, ⟨by decide +kernel, by decide +kernel⟩, by decide +kernel, Or.inl ⟨rfl, by decide, av_m5 (i := 158) rfl, av_memL (i := 34) rfl⟩⟩
set_option maxRecDepth 100000 in
set_option maxHeartbeats 2000000 in
theorem hk_131 : av_hok ms_131 := ⟨by decide +kernel, rfl, av_m5 (i := 177) rfl, av_m1 (i := 12) rfl, ⟨by decide +kernel, by decide +kernel⟩, by decide +kernel, Or.inl ⟨rfl, by decide, av_m5 (i := 176) rfl, av_memL (i := 37) rfl⟩⟩
set_option maxRecDepth 100000 in
set_option maxHeartbeats 2000000 in
theorem hk_132 : av_hok ms_132 := ⟨by decide +kernel, rfl, av_m5 (i := 227) rfl, av_m1 (i := 12) rfl, ⟨by decide +kernel, by decide +kernel⟩, by decide +kernel, Or.inl ⟨rfl, by decide, av_m5 (i := 226) rfl, av_memL (i := 46) rfl⟩⟩
set_option maxRecDepth 100000 in
set_option maxHeartbeats 2000000 in
theorem hk_133 : av_hok ms_133 := ⟨by decide +kernel, rfl, av_m6 (i := 5) rfl, av_m1 (i := 12) rfl, ⟨by decide +kernel, by decide +kernel⟩, by decide +kernel, Or.inl ⟨rfl, by decide, av_m6 (i := 4) rfl, av_memL (i := 49) rfl⟩⟩
set_option maxRecDepth 100000 in
set_option maxHeartbeats 2000000 in
theorem hk_134 : av_hok ms_134 := ⟨by decide +kernel, rfl, av_m5 (i := 222) rfl, av_m1 (i := 12) rfl, ⟨by decide +kernel, by decide +kernel⟩, by decide +kernel, Or.inl ⟨rfl, by decide, av_m5 (i := 221) rfl, av_memL (i := 45) rfl⟩⟩
set_option maxRecDepth 100000 in
set_option maxHeartbeats 2000000 in
theorem hk_135 : av_hok ms_135 := ⟨by decide +kernel, rfl, av_m6 (i := 17) rfl, av_m1 (i := 12) rfl, ⟨by decide +kernel, by decide +kernel⟩, by decide +kernel, Or.inl ⟨rfl, by decide, av_m6 (i := 16) rfl, av_memL (i := 51) rfl⟩⟩
set_option maxRecDepth 100000 in
set_option maxHeartbeats 2000000 in
theorem hk_136 : av_hok ms_136 := ⟨by decide +kernel, rfl, av_m5 (i := 155) rfl, av_m1 (i := 12) rfl, ⟨by decide +kernel, by decide +kernel⟩, by decide +kernel, Or.inl ⟨rfl, by decide, av_m5 (i := 154) rfl, av_memL (i := 33) rfl⟩⟩
set_option maxRecDepth 100000 in
set_option maxHeartbeats 2000000 in
theorem hk_137 : av_hok ms_137 := ⟨by decide +kernel, rfl, av_m5 (i := 196) rfl, av_m1 (i := 12) rfl, ⟨by decide +kernel, by decide +kernel⟩, by decide +kernel, Or.inl ⟨rfl, by decide, av_m5 (i := 195) rfl, av_memL (i := 40) rfl⟩⟩
set_option maxRecDepth 100000 in
set_option maxHeartbeats 2000000 in
theorem hk_138 : av_hok ms_138 := ⟨by decide +kernel, rfl, av_m5 (i := 213) rfl, av_m1 (i := 12) rfl, ⟨by decide +kernel, by decide +kernel⟩, by decide +kernel, Or.inl ⟨rfl, by decide, av_m5 (i := 212) rfl, av_memL (i := 44) rfl⟩⟩
set_option maxRecDepth 100000 in
set_option maxHeartbeats 2000000 in
theorem hk_139 : av_hok ms_139 := ⟨by decide +kernel, rfl, av_m5 (i := 185) rfl, av_m1 (i := 12) rfl, ⟨by decide +kernel, by decide +kernel⟩, by decide +kernel, Or.inl ⟨rfl, by decide, av_m5 (i := 184) rfl, av_memL (i := 39) rfl⟩⟩
set_option maxRecDepth 100000 in
set_option maxHeartbeats 2000000 in
theorem hk_140 : av_hok ms_140 := ⟨by decide +kernel, rfl, av_m5 (i := 237) rfl, av_m1 (i := 12) rfl, ⟨by decide +kernel, by decide +kernel⟩, by decide +kernel, Or.inl ⟨rfl, by decide, av_m5 (i := 236) rfl, av_memL (i := 48) rfl⟩⟩
set_option maxRecDepth 100000 in
set_option maxHeartbeats 2000000 in
theorem hk_141 : av_hok ms_141 := ⟨by decide +kernel, rfl, av_m5 (i := 209) rfl, av_m1 (i := 12) rfl, ⟨by decide +kernel, by decide +kernel⟩, by decide +kernel, Or.inl ⟨rfl, by decide, av_m5 (i := 208) rfl, av_memL (i := 43) rfl⟩⟩
set_option maxRecDepth 100000 in
set_option maxHeartbeats 2000000 in
theorem hk_142 : av_hok ms_142 := ⟨by decide +kernel, rfl, av_m6 (i := 9) rfl, av_m1 (i := 12) rfl, ⟨by decide +kernel, by decide +kernel⟩, by decide +kernel, Or.inl ⟨rfl, by decide, av_m6 (i := 8) rfl, av_memL (i := 50) rfl⟩⟩
set_option maxRecDepth 100000 in
set_option maxHeartbeats 2000000 in
theorem hk_143 : av_hok ms_143 := ⟨by decide +kernel, rfl, av_m5 (i := 233) rfl, av_m1 (i := 12) rfl, ⟨by decide +kernel, by decide +kernel⟩, by decide +kernel, Or.inl ⟨rfl, by decide, av_m5 (i := 232) rfl, av_memL (i := 47) rfl⟩⟩
set_option maxRecDepth 100000 in
set_option maxHeartbeats 2000000 in
theorem hk_144 : av_hok ms_144 := ⟨by decide +kernel, rfl, av_m5 (i := 205) rfl, av_m1 (i := 12) rfl, ⟨by decide +kernel, by decide +kernel⟩, by decide +kernel, Or.inl ⟨rfl, by decide, av_m5 (i := 204) rfl, av_memL (i := 42) rfl⟩⟩
set_option maxRecDepth 100000 in
set_option maxHeartbeats 2000000 in
theorem hk_145 : av_hok ms_145 := ⟨by decide +kernel, rfl, av_m5 (i := 201) rfl, av_m1 (i := 12) rfl, ⟨by decide +kernel, by decide +kernel⟩, by decide +kernel, Or.inl ⟨rfl, by decide, av_m5 (i := 200) rfl, av_memL (i := 41) rfl⟩⟩
set_option maxRecDepth 100000 in
set_option maxHeartbeats 2000000 in
theorem hk_146 : av_hok ms_146 := ⟨by decide +kernel, rfl, av_m5 (i := 181) rfl, av_m1 (i := 12) rfl, ⟨by decide +kernel, by decide +kernel⟩, by decide +kernel, Or.inl ⟨rfl, by decide, av_m5 (i := 180) rfl, av_memL (i := 38) rfl⟩⟩
set_option maxRecDepth 100000 in
set_option maxHeartbeats 2000000 in
theorem hk_147 : av_hok ms_147 := ⟨by decide +kernel, rfl, av_m5 (i := 173) rfl, av_m1 (i := 12) rfl, ⟨by decide +kernel, by decide +kernel⟩, by decide +kernel, Or.inl ⟨rfl, by decide, av_m5 (i := 172) rfl, av_memL (i := 36) rfl⟩⟩
set_option maxRecDepth 100000 in
set_option maxHeartbeats 2000000 in
theorem hk_148 : av_hok ms_148 := ⟨by decide +kernel, rfl, av_m5 (i := 151) rfl, av_m1 (i := 12) rfl, ⟨by decide +kernel, by decide +kernel⟩, by decide +kernel, Or.inl ⟨rfl, by decide, av_m5 (i := 149) rfl, av_m5 (i := 150) rfl⟩⟩
set_option maxRecDepth 100000 in
set_option maxHeartbeats 2000000 in
theorem hk_149 : av_hok ms_149 := ⟨by decide +kernel, rfl, av_m6 (i := 25) rfl, av_m1 (i := 12) rfl, ⟨by decide +kernel, by decide +kernel⟩, by decide +kernel, Or.inl ⟨rfl, by decide, av_m6 (i := 24) rfl, av_memL (i := 52) rfl⟩⟩
set_option maxRecDepth 100000 in
set_option maxHeartbeats 2000000 in
theorem hk_150 : av_hok ms_150 := ⟨by decide +kernel, rfl, av_m6 (i := 76) rfl, av_m1 (i := 12) rfl, ⟨by decide +kernel, by decide +kernel⟩, by decide +kernel, Or.inl ⟨rfl, by decide, av_m6 (i := 75) rfl, av_memL (i := 57) rfl⟩⟩
set_option maxRecDepth 100000 in
set_option maxHeartbeats 2000000 in
theorem hk_151 : av_hok ms_151 := ⟨by decide +kernel, rfl, av_m6 (i := 21) rfl, av_m1 (i := 12) rfl, ⟨by decide +kernel, by decide +kernel⟩, by decide +kernel, Or.inl ⟨rfl, by decide, av_m6 (i := 19) rfl, av_m6 (i := 20) rfl⟩⟩
set_option maxRecDepth 100000 in
set_option maxHeartbeats 2000000 in
theorem hk_152 : av_hok ms_152 := ⟨by decide +kernel, rfl, av_m6 (i := 46) rfl, av_m1 (i := 12) rfl, ⟨by decide +kernel, by decide +kernel⟩, by decide +kernel, Or.inl ⟨rfl, by decide, av_m6 (i := 45) rfl, av_memL (i := 56) rfl⟩⟩
set_option maxRecDepth 100000 in
set_option maxHeartbeats 2000000 in
theorem hk_153 : av_hok ms_153 := ⟨by decide +kernel, rfl, av_m6 (i := 42) rfl, av_m1 (i := 12) rfl, ⟨by decide +kernel, by decide +kernel⟩, by decide +kernel, Or.inl ⟨rfl, by decide, av_m6 (i := 41) rfl, av_memL (i := 55) rfl⟩⟩
set_option maxRecDepth 100000 in
set_option maxHeartbeats 2000000 in
theorem hk_154 : av_hok ms_154 := ⟨by decide +kernel, rfl, av_m6 (i := 37) rfl, av_m1 (i := 12) rfl, ⟨by decide +kernel, by decide +kernel⟩, by decide +kernel, Or.inl ⟨rfl, by decide, av_m6 (i := 36) rfl, av_memL (i := 54) rfl⟩⟩
set_option maxRecDepth 100000 in
set_option maxHeartbeats 2000000 in
theorem hk_155 : av_hok ms_155 := ⟨by decide +kernel, rfl, av_m6 (i := 33) rfl, av_m1 (i := 12) rfl, ⟨by decide +kernel, by decide +kernel⟩, by decide +kernel, Or.inl ⟨rfl, by decide, av_m6 (i := 32) rfl, av_memL (i := 53) rfl⟩⟩
set_option maxRecDepth 100000 in
set_option maxHeartbeats 2000000 in
theorem hk_156 : av_hok ms_156 := ⟨by decide +kernel, rfl, av_m6 (i := 29) rfl, av_m1 (i := 12) rfl, ⟨by decide +kernel, by decide +kernel⟩, by decide +kernel, Or.inl ⟨rfl, by decide, av_m6 (i := 27) rfl, av_m6 (i := 28) rfl⟩⟩
set_option maxRecDepth 100000 in
set_option maxHeartbeats 2000000 in
theorem hk_157 : av_hok ms_157 := ⟨by decide +kernel, rfl, av_m6 (i := 64) rfl, av_m1 (i := 12) rfl, ⟨by decide +kernel, by decide +kernel⟩, by decide +kernel, Or.inl ⟨rfl, by decide, av_m6 (i := 62) rfl, av_m6 (i := 63) rfl⟩⟩
set_option maxRecDepth 100000 in
set_option maxHeartbeats 2000000 in
theorem hk_158 : av_hok ms_158 := ⟨by decide +kernel, rfl, av_m6 (i := 68) rfl, av_m1 (i := 12) rfl, ⟨by decide +kernel, by decide +kernel⟩, by decide +kernel, Or.inl ⟨rfl, by decide, av_m6 (i := 66) rfl, av_m6 (i := 67) rfl⟩⟩
set_option maxRecDepth 100000 in
set_option maxHeartbeats 2000000 in
theorem hk_159 : av_hok ms_159 := ⟨by decide +kernel, rfl, av_m6 (i := 80) rfl, av_m1 (i := 12) rfl, ⟨by decide +kernel, by decide +kernel⟩, by decide +kernel, Or.inl ⟨rfl, by decide, av_m6 (i := 79) rfl, av_memL (i := 58) rfl⟩⟩
set_option maxRecDepth 100000 in
set_option maxHeartbeats 2000000 in
theorem hk_160 : av_hok ms_160 := ⟨by decide +kernel, rfl, av_m6 (i := 72) rfl, av_m1 (i := 12) rfl, ⟨by decide +kernel, by decide +kernel⟩, by decide +kernel, Or.inl ⟨rfl, by decide, av_m6 (i := 70) rfl, av_m6 (i := 71) rfl⟩⟩
set_option maxRecDepth 100000 in
set_option maxHeartbeats 2000000 in
theorem hk_161 : av_hok ms_161 := ⟨by decide +kernel, rfl, av_m6 (i := 84) rfl, av_m1 (i := 12) rfl, ⟨by decide +kernel, by decide +kernel⟩, by decide +kernel, Or.inl ⟨rfl, by decide, av_m6 (i := 82) rfl, av_m6 (i := 83) rfl⟩⟩
set_option maxRecDepth 100000 in
set_option maxHeartbeats 2000000 in
theorem hk_162 : av_hok ms_162 := ⟨by decide +kernel, rfl, av_m6 (i := 96) rfl, av_m1 (i := 12) rfl, ⟨by decide +kernel, by decide +kernel⟩, by decide +kernel, Or.inl ⟨rfl, by decide, av_m6 (i := 95) rfl, av_memL (i := 60) rfl⟩⟩
set_option maxRecDepth 100000 in
set_option maxHeartbeats 2000000 in
theorem hk_163 : av_hok ms_163 := ⟨by decide +kernel, rfl, av_m6 (i := 100) rfl, av_m1 (i := 12) rfl, ⟨by decide +kernel, by decide +kernel⟩, by decide +kernel, Or.inl ⟨rfl, by decide, av_m6 (i := 99) rfl, av_memL (i := 61) rfl⟩⟩
set_option maxRecDepth 100000 in
set_option maxHeartbeats 2000000 in
theorem hk_164 : av_hok ms_164 := ⟨by decide +kernel, rfl, av_m6 (i := 104) rfl, av_m1 (i := 12) rfl, ⟨by decide +kernel, by decide +kernel⟩, by decide +kernel, Or.inl ⟨rfl, by decide, av_m6 (i := 103) rfl, av_memL (i := 62) rfl⟩⟩
set_option maxRecDepth 100000 in
set_option maxHeartbeats 2000000 in
theorem hk_165 : av_hok ms_165 := ⟨by decide +kernel, rfl, av_m6 (i := 112) rfl, av_m1 (i := 12) rfl, ⟨by decide +kernel, by decide +kernel⟩, by decide +kernel, Or.inl ⟨rfl, by decide, av_m6 (i := 111) rfl, av_memL (i := 63) rfl⟩⟩
set_option maxRecDepth 100000 in
set_option maxHeartbeats 2000000 in
theorem hk_166 : av_hok ms_166 := ⟨by decide +kernel, rfl, av_m6 (i := 116) rfl, av_m1 (i := 12) rfl, ⟨by decide +kernel, by decide +kernel⟩, by decide +kernel, Or.inl ⟨rfl, by decide, av_m6 (i := 115) rfl, av_memL (i := 64) rfl⟩⟩
set_option maxRecDepth 100000 in
set_option maxHeartbeats 2000000 in
theorem hk_167 : av_hok ms_167 := ⟨by decide +kernel, rfl, av_m6 (i := 148) rfl, av_m1 (i := 12) rfl, ⟨by decide +kernel, by decide +kernel⟩, by decide +kernel, Or.inl ⟨rfl, by decide, av_m6 (i := 147) rfl, av_memL (i := 71) rfl⟩⟩
set_option maxRecDepth 100000 in
set_option maxHeartbeats 2000000 in
theorem hk_168 : av_hok ms_168 := ⟨by decide +kernel, rfl, av_m6 (i := 144) rfl, av_m1 (i := 12) rfl, ⟨by decide +kernel, by decide +kernel⟩, by decide +kernel, Or.inl ⟨rfl, by decide, av_m6 (i := 143) rfl, av_memL (i := 70) rfl⟩⟩
set_option maxRecDepth 100000 in
set_option maxHeartbeats 2000000 in
theorem hk_169 : av_hok ms_169 := ⟨by decide +kernel, rfl, av_m6 (i := 164) rfl, av_m1 (i := 12) rfl, ⟨by decide +kernel, by decide +kernel⟩, by decide +kernel, Or.inl ⟨rfl, by decide, av_m6 (i := 163) rfl, av_memL (i := 75) rfl⟩⟩
set_option maxRecDepth 100000 in
set_option maxHeartbeats 2000000 in
theorem hk_170 : av_hok ms_170 := ⟨by decide +kernel, rfl, av_m6 (i := 172) rfl, av_m1 (i := 12) rfl, ⟨by decide +kernel, by decide +kernel⟩, by decide +kernel, Or.inl ⟨rfl, by decide, av_m6 (i := 171) rfl, av_memL (i := 77) rfl⟩⟩
set_option maxRecDepth 100000 in
set_option maxHeartbeats 2000000 in
theorem hk_171 : av_hok ms_171 := ⟨by decide +kernel, rfl, av_m6 (i := 152) rfl, av_m1 (i := 12) rfl, ⟨by decide +kernel, by decide +kernel⟩, by decide +kernel, Or.inl ⟨rfl, by decide, av_m6 (i := 151) rfl, av_memL (i := 72) rfl⟩⟩
set_option maxRecDepth 100000 in
set_option maxHeartbeats 2000000 in
theorem hk_172 : av_hok ms_172 := ⟨by decide +kernel, rfl, av_m6 (i := 160) rfl, av_m1 (i := 12) rfl, ⟨by decide +kernel, by decide +kernel⟩, by decide +kernel, Or.inl ⟨rfl, by decide, av_m6 (i := 159) rfl, av_memL (i := 74) rfl⟩⟩
set_option maxRecDepth 100000 in
set_option maxHeartbeats 2000000 in
theorem hk_173 : av_hok ms_173 := ⟨by decide +kernel, rfl, av_m6 (i := 156) rfl, av_m1 (i := 12) rfl, ⟨by decide +kernel, by decide +kernel⟩, by decide +kernel, Or.inl ⟨rfl, by decide, av_m6 (i := 155) rfl, av_memL (i := 73) rfl⟩⟩
set_option maxRecDepth 100000 in
set_option maxHeartbeats 2000000 in
theorem hk_174 : av_hok ms_174 := ⟨by decide +kernel, rfl, av_m6 (i := 140) rfl, av_m1 (i := 12) rfl, ⟨by decide +kernel, by decide +kernel⟩, by decide +kernel, Or.inl ⟨rfl, by decide, av_m6 (i := 139) rfl, av_memL (i := 69) rfl⟩⟩
set_option maxRecDepth 100000 in
set_option maxHeartbeats 2000000 in
theorem hk_175 : av_hok ms_175 := ⟨by decide +kernel, rfl, av_m6 (i := 184) rfl, av_m1 (i := 12) rfl, ⟨by decide +kernel, by decide +kernel⟩, by decide +kernel, Or.inl ⟨rfl, by decide, av_m6 (i := 183) rfl, av_memL (i := 80) rfl⟩⟩
set_option maxRecDepth 100000 in
set_option maxHeartbeats 2000000 in
theorem hk_176 : av_hok ms_176 := ⟨by decide +kernel, rfl, av_m6 (i := 176) rfl, av_m1 (i := 12) rfl, ⟨by decide +kernel, by decide +kernel⟩, by decide +kernel, Or.inl ⟨rfl, by decide, av_m6 (i := 175) rfl, av_memL (i := 78) rfl⟩⟩
set_option maxRecDepth 100000 in
set_option maxHeartbeats 2000000 in
theorem hk_177 : av_hok ms_177 := ⟨by decide +kernel, rfl, av_m6 (i := 180) rfl, av_m1 (i := 12) rfl, ⟨by decide +kernel, by decide +kernel⟩, by decide +kernel, Or.inl ⟨rfl, by decide, av_m6 (i := 179) rfl, av_memL (i := 79) rfl⟩⟩
set_option maxRecDepth 100000 in
set_option maxHeartbeats 2000000 in
theorem hk_178 : av_hok ms_178 := ⟨by decide +kernel, rfl, av_m6 (i := 188) rfl, av_m1 (i := 12) rfl, ⟨by decide +kernel, by decide +kernel⟩, by decide +kernel, Or.inl ⟨rfl, by decide, av_m6 (i := 187) rfl, av_memL (i := 81) rfl⟩⟩
set_option maxRecDepth 100000 in
set_option maxHeartbeats 2000000 in
theorem hk_179 : av_hok ms_179 := ⟨by decide +kernel, rfl, av_m6 (i := 192) rfl, av_m1 (i := 12) rfl, ⟨by decide +kernel, by decide +kernel⟩, by decide +kernel, Or.inl ⟨rfl, by decide, av_m6 (i := 191) rfl, av_memL (i := 82) rfl⟩⟩
set_option maxRecDepth 100000 in
set_option maxHeartbeats 2000000 in
theorem hk_180 : av_hok ms_180 := ⟨by decide +kernel, rfl, av_m6 (i := 168) rfl, av_m1 (i := 12) rfl, ⟨by decide +kernel, by decide +kernel⟩, by decide +kernel, Or.inl ⟨rfl, by decide, av_m6 (i := 167) rfl, av_memL (i := 76) rfl⟩⟩
set_option maxRecDepth 100000 in
set_option maxHeartbeats 2000000 in
theorem hk_181 : av_hok ms_181 := ⟨by decide +kernel, rfl, av_m6 (i := 136) rfl, av_m1 (i := 12) rfl, ⟨by decide +kernel, by decide +kernel⟩, by decide +kernel, Or.inl ⟨rfl, by decide, av_m6 (i := 135) rfl, av_memL (i := 68) rfl⟩⟩
set_option maxRecDepth 100000 in
set_option maxHeartbeats 2000000 in
theorem hk_182 : av_hok ms_182 := ⟨by decide +kernel, rfl, av_m6 (i := 200) rfl, av_m1 (i := 12) rfl, ⟨by decide +kernel, by decide +kernel⟩, by decide +kernel, Or.inl ⟨rfl, by decide, av_m6 (i := 199) rfl, av_memL (i := 84) rfl⟩⟩
set_option maxRecDepth 100000 in
set_option maxHeartbeats 2000000 in
theorem hk_183 : av_hok ms_183 := ⟨by decide +kernel, rfl, av_m6 (i := 196) rfl, av_m1 (i := 12) rfl, ⟨by decide +kernel, by decide +kernel⟩, by decide +kernel, Or.inl ⟨rfl, by decide, av_m6 (i := 195) rfl, av_memL (i := 83) rfl⟩⟩
set_option maxRecDepth 100000 in
set_option maxHeartbeats 2000000 in
theorem hk_184 : av_hok ms_184 := ⟨by decide +kernel, rfl, av_m6 (i := 132) rfl, av_m1 (i := 12) rfl, ⟨by decide +kernel, by decide +kernel⟩, by decide +kernel, Or.inl ⟨rfl, by decide, av_m6 (i := 131) rfl, av_memL (i := 67) rfl⟩⟩
set_option maxRecDepth 100000 in
set_option maxHeartbeats 2000000 in
theorem hk_185 : av_hok ms_185 := ⟨by decide +kernel, rfl, av_m6 (i := 128) rfl, av_m1 (i := 12) rfl, ⟨by decide +kernel, by decide +kernel⟩, by decide +kernel, Or.inl ⟨rfl, by decide, av_m6 (i := 127) rfl, av_memL (i := 66) rfl⟩⟩
set_option maxRecDepth 100000 in
set_option maxHeartbeats 2000000 in
theorem hk_186 : av_hok ms_186 := ⟨by decide +kernel, rfl, av_m6 (i := 124) rfl, av_m1 (i := 12) rfl, ⟨by decide +kernel, by decide +kernel⟩, by decide +kernel, Or.inl ⟨rfl, by decide, av_m6 (i := 123) rfl, av_memL (i := 65) rfl⟩⟩
set_option maxRecDepth 100000 in
set_option maxHeartbeats 2000000 in
theorem hk_187 : av_hok ms_187 := ⟨by decide +kernel, rfl, av_m6 (i := 88) rfl, av_m1 (i := 12) rfl, ⟨by decide +kernel, by decide +kernel⟩, by decide +kernel, Or.inl ⟨rfl, by decide, av_m6 (i := 86) rfl, av_m6 (i := 87) rfl⟩⟩
set_option maxRecDepth 100000 in
set_option maxHeartbeats 2000000 in
theorem hk_188 : av_hok ms_188 := ⟨by decide +kernel, rfl, av_m6 (i := 92) rfl, av_m1 (i := 12) rfl, ⟨by decide +kernel, by decide +kernel⟩, by decide +kernel, Or.inl ⟨rfl, by decide, av_m6 (i := 91) rfl, av_memL (i := 59) rfl⟩⟩
set_option maxRecDepth 100000 in
set_option maxHeartbeats 2000000 in
theorem hk_189 : av_hok ms_189 := ⟨by decide +kernel, rfl, av_m6 (i := 108) rfl, av_m1 (i := 12) rfl, ⟨by decide +kernel, by decide +kernel⟩, by decide +kernel, Or.inl ⟨rfl, by decide, av_m6 (i := 106) rfl, av_m6 (i := 107) rfl⟩⟩
set_option maxRecDepth 100000 in
set_option maxHeartbeats 2000000 in
theorem hk_190 : av_hok ms_190 := ⟨by decide +kernel, rfl, av_m6 (i := 120) rfl, av_m1 (i := 12) rfl, ⟨by decide +kernel, by decide +kernel⟩, by decide +kernel, Or.inl ⟨rfl, by decide, av_m6 (i := 118) rfl, av_m6 (i := 119) rfl⟩⟩
set_option maxRecDepth 100000 in
set_option maxHeartbeats 2000000 in
theorem hk_191 : av_hok ms_191 := ⟨by decide +kernel, rfl, av_m6 (i := 204) rfl, av_m1 (i := 12) rfl, ⟨by decide +kernel, by decide +kernel⟩, by decide +kernel, Or.inl ⟨rfl, by decide, av_m6 (i := 202) rfl, av_m6 (i := 203) rfl⟩⟩
set_option maxRecDepth 100000 in
set_option maxHeartbeats 2000000 in
theorem hk_192 : av_hok ms_192 := ⟨by decide +kernel, rfl, av_m6 (i := 208) rfl, av_m1 (i := 12) rfl, ⟨by decide +kernel, by decide +kernel⟩, by decide +kernel, Or.inl ⟨rfl, by decide, av_m6 (i := 206) rfl, av_m6 (i := 207) rfl⟩⟩
set_option maxRecDepth 100000 in
set_option maxHeartbeats 2000000 in
theorem hk_193 : av_hok ms_193 := ⟨by decide +kernel, rfl, av_m6 (i := 212) rfl, av_m1 (i := 12) rfl, ⟨by decide +kernel, by decide +kernel⟩, by decide +kernel, Or.inl ⟨rfl, by decide, av_m6 (i := 210) rfl, av_m6 (i := 211) rfl⟩⟩
set_option maxRecDepth 100000 in
set_option maxHeartbeats 2000000 in
theorem hk_194 : av_hok ms_194 := ⟨by decide +kernel, rfl, av_m6 (i := 219) rfl, av_m1 (i := 12) rfl, ⟨by decide +kernel, by decide +kernel⟩, by decide +kernel, Or.inr (Or.inr ⟨rfl, av_m6 (i := 218) rfl⟩)⟩
set_option maxRecDepth 100000 in
set_option maxHeartbeats 2000000 in
theorem hk_195 : av_hok ms_195 := ⟨by decide +kernel, rfl, av_m6 (i := 227) rfl, av_m1 (i := 12) rfl, ⟨by decide +kernel, by decide +kernel⟩, by decide +kernel, Or.inl ⟨rfl, by decide, av_m6 (i := 226) rfl, av_memL (i := 86) rfl⟩⟩
set_option maxRecDepth 100000 in
set_option maxHeartbeats 2000000 in
theorem hk_196 : av_hok ms_196 := ⟨by decide +kernel, rfl, av_m6 (i := 223) rfl, av_m1 (i := 12) rfl, ⟨by decide +kernel, by decide +kernel⟩, by decide +kernel, Or.inl ⟨rfl, by decide, av_m6 (i := 222) rfl, av_memL (i := 85) rfl⟩⟩
set_option maxRecDepth 100000 in
set_option maxHeartbeats 2000000 in
theorem hk_197 : av_hok ms_197 := ⟨by decide +kernel, rfl, av_m6 (i := 216) rfl, av_m1 (i := 12) rfl, ⟨by decide +kernel, by decide +kernel⟩, by decide +kernel, Or.inl ⟨rfl, by decide, av_m6 (i := 214) rfl, av_m6 (i := 215) rfl⟩⟩
set_option maxRecDepth 100000 in
set_option maxHeartbeats 2000000 in
theorem hk_198 : av_hok ms_198 := ⟨by decide +kernel, rfl, av_m6 (i := 231) rfl, av_m1 (i := 12) rfl, ⟨by decide +kernel, by decide +kernel⟩, by decide +kernel, Or.inl ⟨rfl, by decide, av_m6 (i := 229) rfl, av_m6 (i := 230) rfl⟩⟩
set_option maxRecDepth 100000 in
set_option maxHeartbeats 2000000 in
theorem hk_199 : av_hok ms_199 := ⟨by decide +kernel, rfl, av_m6 (i := 235) rfl, av_m1 (i := 12) rfl, ⟨by decide +kernel, by decide +kernel⟩, by decide +kernel, Or.inl ⟨rfl, by decide, av_m6 (i := 233) rfl, av_m6 (i := 234) rfl⟩⟩
set_option maxRecDepth 100000 in
set_option maxHeartbeats 2000000 in
theorem hk_200 : av_hok ms_200 := ⟨by decide +kernel, rfl, av_m7 (i := 3) rfl, av_m1 (i := 12) rfl, ⟨by decide +kernel, by decide +kernel⟩, by decide +kernel, Or.inl ⟨rfl, by decide, av_m7 (i := 2) rfl, av_memL (i := 87) rfl⟩⟩
set_option maxRecDepth 100000 in
set_option maxHeartbeats 2000000 in
theorem hk_201 : av_hok ms_201 := ⟨by decide +kernel, rfl, av_m6 (i := 239) rfl, av_m1 (i := 12) rfl, ⟨by decide +kernel, by decide +kernel⟩, by decide +kernel, Or.inl ⟨rfl, by decide, av_m6 (i := 237) rfl, av_m6 (i := 238) rfl⟩⟩
set_option maxRecDepth 100000 in
set_option maxHeartbeats 2000000 in
theorem hk_202 : av_hok ms_202 := ⟨by decide +kernel, rfl, av_m7 (i := 7) rfl, av_m1 (i := 12) rfl, ⟨by decide +kernel, by decide +kernel⟩, by decide +kernel, Or.inl ⟨rfl, by decide, av_m7 (i := 5) rfl, av_m7 (i := 6) rfl⟩⟩
set_option maxRecDepth 100000 in
set_option maxHeartbeats 2000000 in
theorem hk_203 : av_hok ms_203 := ⟨by decide +kernel, rfl, av_m7 (i := 15) rfl, av_m1 (i := 12) rfl, ⟨by decide +kernel, by decide +kernel⟩, by decide +kernel, Or.inl ⟨rfl, by decide, av_m7 (i := 14) rfl, av_memL (i := 88) rfl⟩⟩
set_option maxRecDepth 100000 in
set_option maxHeartbeats 2000000 in
theorem hk_204 : av_hok ms_204 := ⟨by decide +kernel, rfl, av_m7 (i := 11) rfl, av_m1 (i := 12) rfl, ⟨by decide +kernel, by decide +kernel⟩, by decide +kernel, Or.inl ⟨rfl, by decide, av_m7 (i := 9) rfl, av_m7 (i := 10) rfl⟩⟩
set_option maxRecDepth 100000 in
set_option maxHeartbeats 2000000 in
theorem hk_205 : av_hok ms_205 := ⟨by decide +kernel, rfl, av_m7 (i := 19) rfl, av_m1 (i := 12) rfl, ⟨by decide +kernel, by decide +kernel⟩, by decide +kernel, Or.inl ⟨rfl, by decide, av_m7 (i := 17) rfl, av_m7 (i := 18) rfl⟩⟩
set_option maxRecDepth 100000 in
set_option maxHeartbeats 2000000 in
theorem hk_206 : av_hok ms_206 := ⟨by decide +kernel, rfl, av_m7 (i := 27) rfl, av_m1 (i := 12) rfl, ⟨by decide +kernel, by decide +kernel⟩, by decide +kernel, Or.inl ⟨rfl, by decide, av_m7 (i := 26) rfl, av_memL (i := 89) rfl⟩⟩
set_option maxRecDepth 100000 in
set_option maxHeartbeats 2000000 in
theorem hk_207 : av_hok ms_207 := ⟨by decide +kernel, rfl, av_m7 (i := 23) rfl, av_m1 (i := 12) rfl, ⟨by decide +kernel, by decide +kernel⟩, by decide +kernel, Or.inl ⟨rfl, by decide, av_m7 (i := 21) rfl, av_m7 (i := 22) rfl⟩⟩
set_option maxRecDepth 100000 in
set_option maxHeartbeats 2000000 in
theorem hk_208 : av_hok ms_208 := ⟨by decide +kernel, rfl, av_m7 (i := 31) rfl, av_m1 (i := 12) rfl, ⟨by decide +kernel, by decide +kernel⟩, by decide +kernel, Or.inl ⟨rfl, by decide, av_m7 (i := 29) rfl, av_m7 (i := 30) rfl⟩⟩
set_option maxRecDepth 100000 in
set_option maxHeartbeats 2000000 in
theorem hk_209 : av_hok ms_209 := ⟨by decide +kernel, rfl, av_m7 (i := 43) rfl, av_m1 (i := 12) rfl, ⟨by decide +kernel, by decide +kernel⟩, by decide +kernel, Or.inl ⟨rfl, by decide, av_m7 (i := 42) rfl, av_memL (i := 91) rfl⟩⟩
set_option maxRecDepth 100000 in
set_option maxHeartbeats 2000000 in
theorem hk_210 : av_hok ms_210 := ⟨by decide +kernel, rfl, av_m7 (i := 39) rfl, av_m1 (i := 12) rfl, ⟨by decide +kernel, by decide +kernel⟩, by decide +kernel, Or.inl ⟨rfl, by decide, av_m7 (i := 38) rfl, av_memL (i := 90) rfl⟩⟩
set_option maxRecDepth 100000 in
set_option maxHeartbeats 2000000 in
theorem hk_211 : av_hok ms_211 := ⟨by decide +kernel, rfl, av_m7 (i := 35) rfl, av_m1 (i := 12) rfl, ⟨by decide +kernel, by decide +kernel⟩, by decide +kernel, Or.inl ⟨rfl, by decide, av_m7 (i := 33) rfl, av_m7 (i := 34) rfl⟩⟩
set_option maxRecDepth 100000 in
set_option maxHeartbeats 2000000 in
theorem hk_212 : av_hok ms_212 := ⟨by decide +kernel, rfl, av_m7 (i := 47) rfl, av_m1 (i := 12) rfl, ⟨by decide +kernel, by decide +kernel⟩, by decide +kernel, Or.inl ⟨rfl, by decide, av_m7 (i := 45) rfl, av_m7 (i := 46) rfl⟩⟩
set_option maxRecDepth 100000 in
set_option maxHeartbeats 2000000 in
theorem hk_213 : av_hok ms_213 := ⟨by decide +kernel, rfl, av_m7 (i := 55) rfl, av_m1 (i := 12) rfl, ⟨by decide +kernel, by decide +kernel⟩, by decide +kernel, Or.inl ⟨rfl, by decide, av_m7 (i := 54) rfl, av_memL (i := 92) rfl⟩⟩
set_option maxRecDepth 100000 in
set_option maxHeartbeats 2000000 in
theorem hk_214 : av_hok ms_214 := ⟨by decide +kernel, rfl, av_m7 (i := 51) rfl, av_m1 (i := 12) rfl, ⟨by decide +kernel, by decide +kernel⟩, by decide +kernel, Or.inl ⟨rfl, by decide, av_m7 (i := 49) rfl, av_m7 (i := 50) rfl⟩⟩
set_option maxRecDepth 100000 in
set_option maxHeartbeats 2000000 in
theorem hk_215 : av_hok ms_215 := ⟨by decide +kernel, rfl, av_m7 (i := 59) rfl, av_m1 (i := 12) rfl, ⟨by decide +kernel, by decide +kernel⟩, by decide +kernel, Or.inl ⟨rfl, by decide, av_m7 (i := 57) rfl, av_m7 (i := 58) rfl⟩⟩
set_option maxRecDepth 100000 in
set_option maxHeartbeats 2000000 in
theorem hk_216 : av_hok ms_216 := ⟨by decide +kernel, rfl, av_m7 (i := 67) rfl, av_m1 (i := 12) rfl, ⟨by decide +kernel, by decide +kernel⟩, by decide +kernel, Or.inl ⟨rfl, by decide, av_m7 (i := 66) rfl, av_memL (i := 93) rfl⟩⟩
set_option maxRecDepth 100000 in
set_option maxHeartbeats 2000000 in
theorem hk_217 : av_hok ms_217 := ⟨by decide +kernel, rfl, av_m7 (i := 63) rfl, av_m1 (i := 12) rfl, ⟨by decide +kernel, by decide +kernel⟩, by decide +kernel, Or.inl ⟨rfl, by decide, av_m7 (i := 61) rfl, av_m7 (i := 62) rfl⟩⟩
set_option maxRecDepth 100000 in
set_option maxHeartbeats 2000000 in
theorem hk_218 : av_hok ms_218 := ⟨by decide +kernel, rfl, av_m4 (i := 88) rfl, av_m1 (i := 17) rfl, ⟨by decide +kernel, by decide +kernel⟩, by decide +kernel, Or.inr (Or.inr ⟨rfl, av_m4 (i := 87) rfl⟩)⟩
set_option maxRecDepth 100000 in
set_option maxHeartbeats 2000000 in
theorem hk_219 : av_hok ms_219 := ⟨by decide +kernel, rfl, av_m2 (i := 124) rfl, av_m1 (i := 8) rfl, ⟨by decide +kernel, by decide +kernel⟩, by decide +kernel, Or.inr (Or.inr ⟨rfl, av_m2 (i := 123) rfl⟩)⟩
set_option maxRecDepth 100000 in
set_option maxHeartbeats 2000000 in
theorem hk_220 : av_hok ms_220 := ⟨by decide +kernel, rfl, av_m3 (i := 33) rfl, av_m1 (i := 8) rfl, ⟨by decide +kernel, by decide +kernel⟩, by decide +kernel, Or.inr (Or.inr ⟨rfl, av_m3 (i := 32) rfl⟩)⟩
set_option maxRecDepth 100000 in
set_option maxHeartbeats 2000000 in
theorem hk_221 : av_hok ms_221 := ⟨by decide +kernel, rfl, av_m2 (i := 121) rfl, av_m1 (i := 8) rfl, ⟨by decide +kernel, by decide +kernel⟩, by decide +kernel, Or.inr (Or.inr ⟨rfl, av_m2 (i := 120) rfl⟩)⟩
set_option maxRecDepth 100000 in
set_option maxHeartbeats 2000000 in
theorem hk_222 : av_hok ms_222 := ⟨by decide +kernel, rfl, av_m1 (i := 141) rfl, av_m1 (i := 8) rfl, ⟨by decide +kernel, by decide +kernel⟩, by decide +kernel, Or.inr (Or.inr ⟨rfl, av_m1 (i := 140) rfl⟩)⟩
