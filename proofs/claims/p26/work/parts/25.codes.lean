/-! THE TABLE HOLDS: codes 112 on -/
set_option maxRecDepth 100000 in
set_option maxHeartbeats 2000000 in
theorem dk_112 : av_dok av_TT ms_112 := av_dokB_ok (by decide +kernel)
set_option maxRecDepth 100000 in
set_option maxHeartbeats 2000000 in
theorem dk_113 : av_dok av_TT ms_113 := av_dokB_ok (by decide +kernel)
set_option maxRecDepth 100000 in
set_option maxHeartbeats 2000000 in
theorem dk_114 : av_dok av_TT ms_114 := av_dokB_ok (by decide +kernel)
set_option maxRecDepth 100000 in
set_option maxHeartbeats 2000000 in
theorem dk_115 : av_dok av_TT ms_115 := av_dokB_ok (by decide +kernel)
set_option maxRecDepth 100000 in
set_option maxHeartbeats 2000000 in
theorem dk_116 : av_dok av_TT ms_116 := av_dokB_ok (by decide +kernel)
set_option maxRecDepth 100000 in
set_option maxHeartbeats 2000000 in
theorem dk_117 : av_dok av_TT ms_117 := av_dokB_ok (by decide +kernel)
set_option maxRecDepth 100000 in
set_option maxHeartbeats 2000000 in
theorem dk_118 : av_dok av_TT ms_118 := av_dokB_ok (by decide +kernel)
set_option maxRecDepth 100000 in
set_option maxHeartbeats 2000000 in
theorem dk_119 : av_dok av_TT ms_119 := av_dokB_ok (by decide +kernel)
set_option maxRecDepth 100000 in
set_option maxHeartbeats 2000000 in
theorem dk_120 : av_dok av_TT ms_120 := av_dokB_ok (by decide +kernel)
set_option maxRecDepth 100000 in
set_option maxHeartbeats 2000000 in
theorem dk_121 : av_dok av_TT ms_121 := av_dokB_ok (by decide +kernel)
set_option maxRecDepth 100000 in
set_option maxHeartbeats 2000000 in
theorem dk_122 : av_dok av_TT ms_122 := av_dokB_ok (by decide +kernel)
set_option maxRecDepth 100000 in
set_option maxHeartbeats 2000000 in
theorem dk_123 : av_dok av_TT ms_123 := av_dokB_ok (by decide +kernel)
set_option maxRecDepth 100000 in
set_option maxHeartbeats 2000000 in
theorem dk_124 : av_dok av_TT ms_124 := av_dokB_ok (by decide +kernel)
set_option maxRecDepth 100000 in
set_option maxHeartbeats 2000000 in
theorem dk_125 : av_dok av_TT ms_125 := av_dokB_ok (by decide +kernel)
set_option maxRecDepth 100000 in
set_option maxHeartbeats 2000000 in
theorem dk_126 : av_dok av_TT ms_126 := av_dokB_ok (by decide +kernel)
set_option maxRecDepth 100000 in
set_option maxHeartbeats 2000000 in
theorem dk_127 : av_dok av_TT ms_127 := av_dokB_ok (by decide +kernel)
set_option maxRecDepth 100000 in
set_option maxHeartbeats 2000000 in
theorem dk_128 : av_dok av_TT ms_128 := av_dokB_ok (by decide +kernel)
set_option maxRecDepth 100000 in
set_option maxHeartbeats 2000000 in
theorem dk_129 : av_dok av_TT ms_129 := av_dokB_ok (by decide +kernel)
set_option maxRecDepth 100000 in
set_option maxHeartbeats 2000000 in
theorem dk_130 : av_dok av_TT ms_130 := av_dokB_ok (by decide +kernel)
set_option maxRecDepth 100000 in
set_option maxHeartbeats 2000000 in
theorem dk_131 : av_dok av_TT ms_131 := av_dokB_ok (by decide +kernel)
set_option maxRecDepth 100000 in
set_option maxHeartbeats 2000000 in
theorem dk_132 : av_dok av_TT ms_132 := av_dokB_ok (by decide +kernel)
set_option maxRecDepth 100000 in
set_option maxHeartbeats 2000000 in
theorem dk_133 : av_dok av_TT ms_133 := av_dokB_ok (by decide +kernel)
set_option maxRecDepth 100000 in
set_option maxHeartbeats 2000000 in
theorem dk_134 : av_dok av_TT ms_134 := av_dokB_ok (by decide +kernel)
set_option maxRecDepth 100000 in
set_option maxHeartbeats 2000000 in
theorem dk_135 : av_dok av_TT ms_135 := av_dokB_ok (by decide +kernel)
set_option maxRecDepth 100000 in
set_option maxHeartbeats 2000000 in
theorem dk_136 : av_dok av_TT ms_136 := av_dokB_ok (by decide +kernel)
set_option maxRecDepth 100000 in
set_option maxHeartbeats 2000000 in
theorem dk_137 : av_dok av_TT ms_137 := av_dokB_ok (by decide +kernel)
set_option maxRecDepth 100000 in
set_option maxHeartbeats 2000000 in
theorem dk_138 : av_dok av_TT ms_138 := av_dokB_ok (by decide +kernel)
set_option maxRecDepth 100000 in
set_option maxHeartbeats 2000000 in
theorem dk_139 : av_dok av_TT ms_139 := av_dokB_ok (by decide +kernel)
set_option maxRecDepth 100000 in
set_option maxHeartbeats 2000000 in
theorem dk_140 : av_dok av_TT ms_140 := av_dokB_ok (by decide +kernel)
set_option maxRecDepth 100000 in
set_option maxHeartbeats 2000000 in
theorem dk_141 : av_dok av_TT ms_141 := av_dokB_ok (by decide +kernel)
set_option maxRecDepth 100000 in
set_option maxHeartbeats 2000000 in
theorem dk_142 : av_dok av_TT ms_142 := av_dokB_ok (by decide +kernel)
set_option maxRecDepth 100000 in
set_option maxHeartbeats 2000000 in
theorem dk_143 : av_dok av_TT ms_143 := av_dokB_ok (by decide +kernel)
set_option maxRecDepth 100000 in
set_option maxHeartbeats 2000000 in
theorem dk_144 : av_dok av_TT ms_144 := av_dokB_ok (by decide +kernel)
set_option maxRecDepth 100000 in
set_option maxHeartbeats 2000000 in
theorem dk_145 : av_dok av_TT ms_145 := av_dokB_ok (by decide +kernel)
set_option maxRecDepth 100000 in
set_option maxHeartbeats 2000000 in
theorem dk_146 : av_dok av_TT ms_146 := av_dokB_ok (by decide +kernel)
set_option maxRecDepth 100000 in
set_option maxHeartbeats 2000000 in
theorem dk_147 : av_dok av_TT ms_147 := av_dokB_ok (by decide +kernel)
set_option maxRecDepth 100000 in
set_option maxHeartbeats 2000000 in
theorem dk_148 : av_dok av_TT ms_148 := av_dokB_ok (by decide +kernel)
set_option maxRecDepth 100000 in
set_option maxHeartbeats 2000000 in
theorem dk_149 : av_dok av_TT ms_149 := av_dokB_ok (by decide +kernel)
set_option maxRecDepth 100000 in
set_option maxHeartbeats 2000000 in
theorem dk_150 : av_dok av_TT ms_150 := av_dokB_ok (by decide +kernel)
set_option maxRecDepth 100000 in
set_option maxHeartbeats 2000000 in
theorem dk_151 : av_dok av_TT ms_151 := av_dokB_ok (by decide +kernel)
set_option maxRecDepth 100000 in
set_option maxHeartbeats 2000000 in
theorem dk_152 : av_dok av_TT ms_152 := av_dokB_ok (by decide +kernel)
set_option maxRecDepth 100000 in
set_option maxHeartbeats 2000000 in
theorem dk_153 : av_dok av_TT ms_153 := av_dokB_ok (by decide +kernel)
set_option maxRecDepth 100000 in
set_option maxHeartbeats 2000000 in
theorem dk_154 : av_dok av_TT ms_154 := av_dokB_ok (by decide +kernel)
set_option maxRecDepth 100000 in
set_option maxHeartbeats 2000000 in
theorem dk_155 : av_dok av_TT ms_155 := av_dokB_ok (by decide +kernel)
set_option maxRecDepth 100000 in
set_option maxHeartbeats 2000000 in
theorem dk_156 : av_dok av_TT ms_156 := av_dokB_ok (by decide +kernel)
set_option maxRecDepth 100000 in
set_option maxHeartbeats 2000000 in
theorem dk_157 : av_dok av_TT ms_157 := av_dokB_ok (by decide +kernel)
set_option maxRecDepth 100000 in
set_option maxHeartbeats 2000000 in
theorem dk_158 : av_dok av_TT ms_158 := av_dokB_ok (by decide +kernel)
set_option maxRecDepth 100000 in
set_option maxHeartbeats 2000000 in
theorem dk_159 : av_dok av_TT ms_159 := av_dokB_ok (by decide +kernel)
set_option maxRecDepth 100000 in
set_option maxHeartbeats 2000000 in
theorem dk_160 : av_dok av_TT ms_160 := av_dokB_ok (by decide +kernel)
set_option maxRecDepth 100000 in
set_option maxHeartbeats 2000000 in
theorem dk_161 : av_dok av_TT ms_161 := av_dokB_ok (by decide +kernel)
set_option maxRecDepth 100000 in
set_option maxHeartbeats 2000000 in
theorem dk_162 : av_dok av_TT ms_162 := av_dokB_ok (by decide +kernel)
set_option maxRecDepth 100000 in
set_option maxHeartbeats 2000000 in
theorem dk_163 : av_dok av_TT ms_163 := av_dokB_ok (by decide +kernel)
set_option maxRecDepth 100000 in
set_option maxHeartbeats 2000000 in
theorem dk_164 : av_dok av_TT ms_164 := av_dokB_ok (by decide +kernel)
set_option maxRecDepth 100000 in
set_option maxHeartbeats 2000000 in
theorem dk_165 : av_dok av_TT ms_165 := av_dokB_ok (by decide +kernel)
set_option maxRecDepth 100000 in
set_option maxHeartbeats 2000000 in
theorem dk_166 : av_dok av_TT ms_166 := av_dokB_ok (by decide +kernel)
set_option maxRecDepth 100000 in
set_option maxHeartbeats 2000000 in
theorem dk_167 : av_dok av_TT ms_167 := av_dokB_ok (by decide +kernel)
