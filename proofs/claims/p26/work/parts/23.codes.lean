/-! THE TABLE HOLDS: codes 0 on -/
set_option maxRecDepth 100000 in
set_option maxHeartbeats 2000000 in
theorem dk_0 : av_dok av_TT ms_0 := av_dokB_ok (by decide +kernel)
set_option maxRecDepth 100000 in
set_option maxHeartbeats 2000000 in
theorem dk_1 : av_dok av_TT ms_1 := av_dokB_ok (by decide +kernel)
set_option maxRecDepth 100000 in
set_option maxHeartbeats 2000000 in
theorem dk_2 : av_dok av_TT ms_2 := av_dokB_ok (by decide +kernel)
set_option maxRecDepth 100000 in
set_option maxHeartbeats 2000000 in
theorem dk_3 : av_dok av_TT ms_3 := av_dokB_ok (by decide +kernel)
set_option maxRecDepth 100000 in
set_option maxHeartbeats 2000000 in
theorem dk_4 : av_dok av_TT ms_4 := av_dokB_ok (by decide +kernel)
set_option maxRecDepth 100000 in
set_option maxHeartbeats 2000000 in
theorem dk_5 : av_dok av_TT ms_5 := av_dokB_ok (by decide +kernel)
set_option maxRecDepth 100000 in
set_option maxHeartbeats 2000000 in
theorem dk_6 : av_dok av_TT ms_6 := av_dokB_ok (by decide +kernel)
set_option maxRecDepth 100000 in
set_option maxHeartbeats 2000000 in
theorem dk_7 : av_dok av_TT ms_7 := av_dokB_ok (by decide +kernel)
set_option maxRecDepth 100000 in
set_option maxHeartbeats 2000000 in
theorem dk_8 : av_dok av_TT ms_8 := av_dokB_ok (by decide +kernel)
set_option maxRecDepth 100000 in
set_option maxHeartbeats 2000000 in
theorem dk_9 : av_dok av_TT ms_9 := av_dokB_ok (by decide +kernel)
set_option maxRecDepth 100000 in
set_option maxHeartbeats 2000000 in
theorem dk_10 : av_dok av_TT ms_10 := av_dokB_ok (by decide +kernel)
set_option maxRecDepth 100000 in
set_option maxHeartbeats 2000000 in
theorem dk_11 : av_dok av_TT ms_11 := av_dokB_ok (by decide +kernel)
set_option maxRecDepth 100000 in
set_option maxHeartbeats 2000000 in
theorem dk_12 : av_dok av_TT ms_12 := av_dokB_ok (by decide +kernel)
set_option maxRecDepth 100000 in
set_option maxHeartbeats 2000000 in
theorem dk_13 : av_dok av_TT ms_13 := av_dokB_ok (by decide +kernel)
set_option maxRecDepth 100000 in
set_option maxHeartbeats 2000000 in
theorem dk_14 : av_dok av_TT ms_14 := av_dokB_ok (by decide +kernel)
set_option maxRecDepth 100000 in
set_option maxHeartbeats 2000000 in
theorem dk_15 : av_dok av_TT ms_15 := av_dokB_ok (by decide +kernel)
set_option maxRecDepth 100000 in
set_option maxHeartbeats 2000000 in
theorem dk_16 : av_dok av_TT ms_16 := av_dokB_ok (by decide +kernel)
set_option maxRecDepth 100000 in
set_option maxHeartbeats 2000000 in
theorem dk_17 : av_dok av_TT ms_17 := av_dokB_ok (by decide +kernel)
set_option maxRecDepth 100000 in
set_option maxHeartbeats 2000000 in
theorem dk_18 : av_dok av_TT ms_18 := av_dokB_ok (by decide +kernel)
set_option maxRecDepth 100000 in
set_option maxHeartbeats 2000000 in
theorem dk_19 : av_dok av_TT ms_19 := av_dokB_ok (by decide +kernel)
set_option maxRecDepth 100000 in
set_option maxHeartbeats 2000000 in
theorem dk_20 : av_dok av_TT ms_20 := av_dokB_ok (by decide +kernel)
set_option maxRecDepth 100000 in
set_option maxHeartbeats 2000000 in
theorem dk_21 : av_dok av_TT ms_21 := av_dokB_ok (by decide +kernel)
set_option maxRecDepth 100000 in
set_option maxHeartbeats 2000000 in
theorem dk_22 : av_dok av_TT ms_22 := av_dokB_ok (by decide +kernel)
set_option maxRecDepth 100000 in
set_option maxHeartbeats 2000000 in
theorem dk_23 : av_dok av_TT ms_23 := av_dokB_ok (by decide +kernel)
set_option maxRecDepth 100000 in
set_option maxHeartbeats 2000000 in
theorem dk_24 : av_dok av_TT ms_24 := av_dokB_ok (by decide +kernel)
set_option maxRecDepth 100000 in
set_option maxHeartbeats 2000000 in
theorem dk_25 : av_dok av_TT ms_25 := av_dokB_ok (by decide +kernel)
set_option maxRecDepth 100000 in
set_option maxHeartbeats 2000000 in
theorem dk_26 : av_dok av_TT ms_26 := av_dokB_ok (by decide +kernel)
set_option maxRecDepth 100000 in
set_option maxHeartbeats 2000000 in
theorem dk_27 : av_dok av_TT ms_27 := av_dokB_ok (by decide +kernel)
set_option maxRecDepth 100000 in
set_option maxHeartbeats 2000000 in
theorem dk_28 : av_dok av_TT ms_28 := av_dokB_ok (by decide +kernel)
set_option maxRecDepth 100000 in
set_option maxHeartbeats 2000000 in
theorem dk_29 : av_dok av_TT ms_29 := av_dokB_ok (by decide +kernel)
set_option maxRecDepth 100000 in
set_option maxHeartbeats 2000000 in
theorem dk_30 : av_dok av_TT ms_30 := av_dokB_ok (by decide +kernel)
set_option maxRecDepth 100000 in
set_option maxHeartbeats 2000000 in
theorem dk_31 : av_dok av_TT ms_31 := av_dokB_ok (by decide +kernel)
set_option maxRecDepth 100000 in
set_option maxHeartbeats 2000000 in
theorem dk_32 : av_dok av_TT ms_32 := av_dokB_ok (by decide +kernel)
set_option maxRecDepth 100000 in
set_option maxHeartbeats 2000000 in
theorem dk_33 : av_dok av_TT ms_33 := av_dokB_ok (by decide +kernel)
set_option maxRecDepth 100000 in
set_option maxHeartbeats 2000000 in
theorem dk_34 : av_dok av_TT ms_34 := av_dokB_ok (by decide +kernel)
set_option maxRecDepth 100000 in
set_option maxHeartbeats 2000000 in
theorem dk_35 : av_dok av_TT ms_35 := av_dokB_ok (by decide +kernel)
set_option maxRecDepth 100000 in
set_option maxHeartbeats 2000000 in
theorem dk_36 : av_dok av_TT ms_36 := av_dokB_ok (by decide +kernel)
set_option maxRecDepth 100000 in
set_option maxHeartbeats 2000000 in
theorem dk_37 : av_dok av_TT ms_37 := av_dokB_ok (by decide +kernel)
set_option maxRecDepth 100000 in
set_option maxHeartbeats 2000000 in
theorem dk_38 : av_dok av_TT ms_38 := av_dokB_ok (by decide +kernel)
set_option maxRecDepth 100000 in
set_option maxHeartbeats 2000000 in
theorem dk_39 : av_dok av_TT ms_39 := av_dokB_ok (by decide +kernel)
set_option maxRecDepth 100000 in
set_option maxHeartbeats 2000000 in
theorem dk_40 : av_dok av_TT ms_40 := av_dokB_ok (by decide +kernel)
set_option maxRecDepth 100000 in
set_option maxHeartbeats 2000000 in
theorem dk_41 : av_dok av_TT ms_41 := av_dokB_ok (by decide +kernel)
set_option maxRecDepth 100000 in
set_option maxHeartbeats 2000000 in
theorem dk_42 : av_dok av_TT ms_42 := av_dokB_ok (by decide +kernel)
set_option maxRecDepth 100000 in
set_option maxHeartbeats 2000000 in
theorem dk_43 : av_dok av_TT ms_43 := av_dokB_ok (by decide +kernel)
set_option maxRecDepth 100000 in
set_option maxHeartbeats 2000000 in
theorem dk_44 : av_dok av_TT ms_44 := av_dokB_ok (by decide +kernel)
set_option maxRecDepth 100000 in
set_option maxHeartbeats 2000000 in
theorem dk_45 : av_dok av_TT ms_45 := av_dokB_ok (by decide +kernel)
set_option maxRecDepth 100000 in
set_option maxHeartbeats 2000000 in
theorem dk_46 : av_dok av_TT ms_46 := av_dokB_ok (by decide +kernel)
set_option maxRecDepth 100000 in
set_option maxHeartbeats 2000000 in
theorem dk_47 : av_dok av_TT ms_47 := av_dokB_ok (by decide +kernel)
set_option maxRecDepth 100000 in
set_option maxHeartbeats 2000000 in
theorem dk_48 : av_dok av_TT ms_48 := av_dokB_ok (by decide +kernel)
set_option maxRecDepth 100000 in
set_option maxHeartbeats 2000000 in
theorem dk_49 : av_dok av_TT ms_49 := av_dokB_ok (by decide +kernel)
set_option maxRecDepth 100000 in
set_option maxHeartbeats 2000000 in
theorem dk_50 : av_dok av_TT ms_50 := av_dokB_ok (by decide +kernel)
set_option maxRecDepth 100000 in
set_option maxHeartbeats 2000000 in
theorem dk_51 : av_dok av_TT ms_51 := av_dokB_ok (by decide +kernel)
set_option maxRecDepth 100000 in
set_option maxHeartbeats 2000000 in
theorem dk_52 : av_dok av_TT ms_52 := av_dokB_ok (by decide +kernel)
set_option maxRecDepth 100000 in
set_option maxHeartbeats 2000000 in
theorem dk_53 : av_dok av_TT ms_53 := av_dokB_ok (by decide +kernel)
set_option maxRecDepth 100000 in
set_option maxHeartbeats 2000000 in
theorem dk_54 : av_dok av_TT ms_54 := av_dokB_ok (by decide +kernel)
set_option maxRecDepth 100000 in
set_option maxHeartbeats 2000000 in
theorem dk_55 : av_dok av_TT ms_55 := av_dokB_ok (by decide +kernel)
