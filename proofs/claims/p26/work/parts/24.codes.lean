/-! THE TABLE HOLDS: codes 56 on -/
set_option maxRecDepth 100000 in
set_option maxHeartbeats 2000000 in
theorem dk_56 : av_dok av_TT ms_56 := av_dokB_ok (by decide +kernel)
set_option maxRecDepth 100000 in
set_option maxHeartbeats 2000000 in
theorem dk_57 : av_dok av_TT ms_57 := av_dokB_ok (by decide +kernel)
set_option maxRecDepth 100000 in
set_option maxHeartbeats 2000000 in
theorem dk_58 : av_dok av_TT ms_58 := av_dokB_ok (by decide +kernel)
set_option maxRecDepth 100000 in
set_option maxHeartbeats 2000000 in
theorem dk_59 : av_dok av_TT ms_59 := av_dokB_ok (by decide +kernel)
set_option maxRecDepth 100000 in
set_option maxHeartbeats 2000000 in
theorem dk_60 : av_dok av_TT ms_60 := av_dokB_ok (by decide +kernel)
set_option maxRecDepth 100000 in
set_option maxHeartbeats 2000000 in
theorem dk_61 : av_dok av_TT ms_61 := av_dokB_ok (by decide +kernel)
set_option maxRecDepth 100000 in
set_option maxHeartbeats 2000000 in
theorem dk_62 : av_dok av_TT ms_62 := av_dokB_ok (by decide +kernel)
set_option maxRecDepth 100000 in
set_option maxHeartbeats 2000000 in
theorem dk_63 : av_dok av_TT ms_63 := av_dokB_ok (by decide +kernel)
set_option maxRecDepth 100000 in
set_option maxHeartbeats 2000000 in
theorem dk_64 : av_dok av_TT ms_64 := av_dokB_ok (by decide +kernel)
set_option maxRecDepth 100000 in
set_option maxHeartbeats 2000000 in
theorem dk_65 : av_dok av_TT ms_65 := av_dokB_ok (by decide +kernel)
set_option maxRecDepth 100000 in
set_option maxHeartbeats 2000000 in
theorem dk_66 : av_dok av_TT ms_66 := av_dokB_ok (by decide +kernel)
set_option maxRecDepth 100000 in
set_option maxHeartbeats 2000000 in
theorem dk_67 : av_dok av_TT ms_67 := av_dokB_ok (by decide +kernel)
set_option maxRecDepth 100000 in
set_option maxHeartbeats 2000000 in
theorem dk_68 : av_dok av_TT ms_68 := av_dokB_ok (by decide +kernel)
set_option maxRecDepth 100000 in
set_option maxHeartbeats 2000000 in
theorem dk_69 : av_dok av_TT ms_69 := av_dokB_ok (by decide +kernel)
set_option maxRecDepth 100000 in
set_option maxHeartbeats 2000000 in
theorem dk_70 : av_dok av_TT ms_70 := av_dokB_ok (by decide +kernel)
set_option maxRecDepth 100000 in
set_option maxHeartbeats 2000000 in
theorem dk_71 : av_dok av_TT ms_71 := av_dokB_ok (by decide +kernel)
set_option maxRecDepth 100000 in
set_option maxHeartbeats 2000000 in
theorem dk_72 : av_dok av_TT ms_72 := av_dokB_ok (by decide +kernel)
set_option maxRecDepth 100000 in
set_option maxHeartbeats 2000000 in
theorem dk_73 : av_dok av_TT ms_73 := av_dokB_ok (by decide +kernel)
set_option maxRecDepth 100000 in
set_option maxHeartbeats 2000000 in
theorem dk_74 : av_dok av_TT ms_74 := av_dokB_ok (by decide +kernel)
set_option maxRecDepth 100000 in
set_option maxHeartbeats 2000000 in
theorem dk_75 : av_dok av_TT ms_75 := av_dokB_ok (by decide +kernel)
set_option maxRecDepth 100000 in
set_option maxHeartbeats 2000000 in
theorem dk_76 : av_dok av_TT ms_76 := av_dokB_ok (by decide +kernel)
set_option maxRecDepth 100000 in
set_option maxHeartbeats 2000000 in
theorem dk_77 : av_dok av_TT ms_77 := av_dokB_ok (by decide +kernel)
set_option maxRecDepth 100000 in
set_option maxHeartbeats 2000000 in
theorem dk_78 : av_dok av_TT ms_78 := av_dokB_ok (by decide +kernel)
set_option maxRecDepth 100000 in
set_option maxHeartbeats 2000000 in
theorem dk_79 : av_dok av_TT ms_79 := av_dokB_ok (by decide +kernel)
set_option maxRecDepth 100000 in
set_option maxHeartbeats 2000000 in
theorem dk_80 : av_dok av_TT ms_80 := av_dokB_ok (by decide +kernel)
set_option maxRecDepth 100000 in
set_option maxHeartbeats 2000000 in
theorem dk_81 : av_dok av_TT ms_81 := av_dokB_ok (by decide +kernel)
set_option maxRecDepth 100000 in
set_option maxHeartbeats 2000000 in
theorem dk_82 : av_dok av_TT ms_82 := av_dokB_ok (by decide +kernel)
set_option maxRecDepth 100000 in
set_option maxHeartbeats 2000000 in
theorem dk_83 : av_dok av_TT ms_83 := av_dokB_ok (by decide +kernel)
set_option maxRecDepth 100000 in
set_option maxHeartbeats 2000000 in
theorem dk_84 : av_dok av_TT ms_84 := av_dokB_ok (by decide +kernel)
set_option maxRecDepth 100000 in
set_option maxHeartbeats 2000000 in
theorem dk_85 : av_dok av_TT ms_85 := av_dokB_ok (by decide +kernel)
set_option maxRecDepth 100000 in
set_option maxHeartbeats 2000000 in
theorem dk_86 : av_dok av_TT ms_86 := av_dokB_ok (by decide +kernel)
set_option maxRecDepth 100000 in
set_option maxHeartbeats 2000000 in
theorem dk_87 : av_dok av_TT ms_87 := av_dokB_ok (by decide +kernel)
set_option maxRecDepth 100000 in
set_option maxHeartbeats 2000000 in
theorem dk_88 : av_dok av_TT ms_88 := av_dokB_ok (by decide +kernel)
set_option maxRecDepth 100000 in
set_option maxHeartbeats 2000000 in
theorem dk_89 : av_dok av_TT ms_89 := av_dokB_ok (by decide +kernel)
set_option maxRecDepth 100000 in
set_option maxHeartbeats 2000000 in
theorem dk_90 : av_dok av_TT ms_90 := av_dokB_ok (by decide +kernel)
set_option maxRecDepth 100000 in
set_option maxHeartbeats 2000000 in
theorem dk_91 : av_dok av_TT ms_91 := av_dokB_ok (by decide +kernel)
set_option maxRecDepth 100000 in
set_option maxHeartbeats 2000000 in
theorem dk_92 : av_dok av_TT ms_92 := av_dokB_ok (by decide +kernel)
set_option maxRecDepth 100000 in
set_option maxHeartbeats 2000000 in
theorem dk_93 : av_dok av_TT ms_93 := av_dokB_ok (by decide +kernel)
set_option maxRecDepth 100000 in
set_option maxHeartbeats 2000000 in
theorem dk_94 : av_dok av_TT ms_94 := av_dokB_ok (by decide +kernel)
set_option maxRecDepth 100000 in
set_option maxHeartbeats 2000000 in
theorem dk_95 : av_dok av_TT ms_95 := av_dokB_ok (by decide +kernel)
set_option maxRecDepth 100000 in
set_option maxHeartbeats 2000000 in
theorem dk_96 : av_dok av_TT ms_96 := av_dokB_ok (by decide +kernel)
set_option maxRecDepth 100000 in
set_option maxHeartbeats 2000000 in
theorem dk_97 : av_dok av_TT ms_97 := av_dokB_ok (by decide +kernel)
set_option maxRecDepth 100000 in
set_option maxHeartbeats 2000000 in
theorem dk_98 : av_dok av_TT ms_98 := av_dokB_ok (by decide +kernel)
set_option maxRecDepth 100000 in
set_option maxHeartbeats 2000000 in
theorem dk_99 : av_dok av_TT ms_99 := av_dokB_ok (by decide +kernel)
set_option maxRecDepth 100000 in
set_option maxHeartbeats 2000000 in
theorem dk_100 : av_dok av_TT ms_100 := av_dokB_ok (by decide +kernel)
set_option maxRecDepth 100000 in
set_option maxHeartbeats 2000000 in
theorem dk_101 : av_dok av_TT ms_101 := av_dokB_ok (by decide +kernel)
set_option maxRecDepth 100000 in
set_option maxHeartbeats 2000000 in
theorem dk_102 : av_dok av_TT ms_102 := av_dokB_ok (by decide +kernel)
set_option maxRecDepth 100000 in
set_option maxHeartbeats 2000000 in
theorem dk_103 : av_dok av_TT ms_103 := av_dokB_ok (by decide +kernel)
set_option maxRecDepth 100000 in
set_option maxHeartbeats 2000000 in
theorem dk_104 : av_dok av_TT ms_104 := av_dokB_ok (by decide +kernel)
set_option maxRecDepth 100000 in
set_option maxHeartbeats 2000000 in
theorem dk_105 : av_dok av_TT ms_105 := av_dokB_ok (by decide +kernel)
set_option maxRecDepth 100000 in
set_option maxHeartbeats 2000000 in
theorem dk_106 : av_dok av_TT ms_106 := av_dokB_ok (by decide +kernel)
set_option maxRecDepth 100000 in
set_option maxHeartbeats 2000000 in
theorem dk_107 : av_dok av_TT ms_107 := av_dokB_ok (by decide +kernel)
set_option maxRecDepth 100000 in
set_option maxHeartbeats 2000000 in
theorem dk_108 : av_dok av_TT ms_108 := av_dokB_ok (by decide +kernel)
set_option maxRecDepth 100000 in
set_option maxHeartbeats 2000000 in
theorem dk_109 : av_dok av_TT ms_109 := av_dokB_ok (by decide +kernel)
set_option maxRecDepth 100000 in
set_option maxHeartbeats 2000000 in
theorem dk_110 : av_dok av_TT ms_110 := av_dokB_ok (by decide +kernel)
set_option maxRecDepth 100000 in
set_option maxHeartbeats 2000000 in
theorem dk_111 : av_dok av_TT ms_111 := av_dokB_ok (by decide +kernel)
