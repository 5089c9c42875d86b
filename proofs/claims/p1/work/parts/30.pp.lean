/-! THE METHODS BY THEIR NUMBERS -/
theorem pp_0 : av_PP 0 = some (2, cd_0) := rfl
theorem pp_1 : av_PP 1 = some (9, cd_1) := rfl
theorem pp_2 : av_PP 2 = some (2, cd_2) := rfl
theorem pp_3 : av_PP 3 = some (1, cd_3) := rfl
theorem pp_4 : av_PP 4 = some (6, cd_4) := rfl
theorem pp_5 : av_PP 5 = some (8, cd_5) := rfl
theorem pp_6 : av_PP 6 = some (3, cd_6) := rfl
theorem pp_7 : av_PP 7 = some (4, cd_7) := rfl
theorem pp_8 : av_PP 8 = some (5, cd_8) := rfl
theorem pp_9 : av_PP 9 = some (5, cd_9) := rfl
theorem pp_10 : av_PP 10 = some (3, cd_10) := rfl
theorem pp_11 : av_PP 11 = some (4, cd_11) := rfl
theorem pp_12 : av_PP 12 = some (6, cd_12) := rfl
theorem pp_13 : av_PP 13 = some (3, cd_13) := rfl
theorem pp_14 : av_PP 14 = some (4, cd_14) := rfl
theorem pp_15 : av_PP 15 = some (2, cd_15) := rfl
theorem pp_16 : av_PP 16 = some (3, cd_16) := rfl
theorem pp_17 : av_PP 17 = some (4, cd_17) := rfl
theorem pp_18 : av_PP 18 = some (3, cd_18) := rfl
theorem pp_19 : av_PP 19 = some (4, cd_19) := rfl
theorem pp_20 : av_PP 20 = some (4, cd_20) := rfl
theorem pp_21 : av_PP 21 = some (4, cd_21) := rfl
theorem pp_22 : av_PP 22 = some (5, cd_22) := rfl
theorem pp_23 : av_PP 23 = some (5, cd_23) := rfl
theorem pp_24 : av_PP 24 = some (5, cd_24) := rfl
theorem pp_25 : av_PP 25 = some (5, cd_25) := rfl
theorem pp_26 : av_PP 26 = some (2, cd_26) := rfl
theorem pp_27 : av_PP 27 = some (9, cd_27) := rfl
theorem pp_28 : av_PP 28 = some (2, cd_28) := rfl
theorem pp_29 : av_PP 29 = some (3, cd_29) := rfl
theorem pp_30 : av_PP 30 = some (3, cd_30) := rfl
theorem pp_31 : av_PP 31 = some (6, cd_31) := rfl
theorem pp_32 : av_PP 32 = some (3, cd_32) := rfl
theorem pp_33 : av_PP 33 = some (4, cd_33) := rfl
theorem pp_34 : av_PP 34 = some (2, cd_34) := rfl
theorem pp_35 : av_PP 35 = some (6, cd_35) := rfl
theorem pp_36 : av_PP 36 = some (5, cd_36) := rfl
theorem pp_37 : av_PP 37 = some (2, cd_37) := rfl
theorem pp_38 : av_PP 38 = some (4, cd_38) := rfl
theorem pp_39 : av_PP 39 = some (6, cd_39) := rfl
theorem pp_40 : av_PP 40 = some (2, cd_40) := rfl
theorem pp_41 : av_PP 41 = some (3, cd_41) := rfl
theorem pp_42 : av_PP 42 = some (4, cd_42) := rfl
theorem pp_43 : av_PP 43 = some (3, cd_43) := rfl
theorem pp_44 : av_PP 44 = some (6, cd_44) := rfl
theorem pp_45 : av_PP 45 = some (3, cd_45) := rfl
theorem pp_46 : av_PP 46 = some (1, cd_46) := rfl
theorem pp_47 : av_PP 47 = some (5, cd_47) := rfl
theorem pp_48 : av_PP 48 = some (5, cd_48) := rfl
theorem pp_49 : av_PP 49 = some (3, cd_49) := rfl
theorem pp_50 : av_PP 50 = some (5, cd_50) := rfl
theorem pp_51 : av_PP 51 = some (5, cd_51) := rfl
theorem pp_52 : av_PP 52 = some (8, cd_52) := rfl
theorem pp_53 : av_PP 53 = some (6, cd_53) := rfl
theorem pp_54 : av_PP 54 = some (5, cd_54) := rfl
theorem pp_55 : av_PP 55 = some (4, cd_55) := rfl
theorem pp_56 : av_PP 56 = some (2, cd_56) := rfl
theorem pp_57 : av_PP 57 = some (3, cd_57) := rfl
theorem pp_58 : av_PP 58 = some (7, cd_58) := rfl
theorem pp_59 : av_PP 59 = some (4, cd_59) := rfl
theorem pp_60 : av_PP 60 = some (3, cd_60) := rfl
theorem pp_61 : av_PP 61 = some (2, cd_61) := rfl
theorem pp_62 : av_PP 62 = some (3, cd_62) := rfl
theorem pp_63 : av_PP 63 = some (7, cd_63) := rfl
theorem pp_64 : av_PP 64 = some (2, cd_64) := rfl
theorem pp_65 : av_PP 65 = some (4, cd_65) := rfl
theorem pp_66 : av_PP 66 = some (1, cd_66) := rfl
theorem pp_67 : av_PP 67 = some (4, cd_67) := rfl
theorem pp_68 : av_PP 68 = some (1, cd_68) := rfl
theorem pp_69 : av_PP 69 = some (2, cd_69) := rfl
theorem pp_70 : av_PP 70 = some (2, cd_70) := rfl
theorem pp_71 : av_PP 71 = some (2, cd_71) := rfl
theorem pp_72 : av_PP 72 = some (2, cd_72) := rfl
theorem pp_73 : av_PP 73 = some (2, cd_73) := rfl
theorem pp_74 : av_PP 74 = some (3, cd_74) := rfl
theorem pp_75 : av_PP 75 = some (5, cd_75) := rfl
theorem pp_76 : av_PP 76 = some (4, cd_76) := rfl
theorem pp_77 : av_PP 77 = some (3, cd_77) := rfl
theorem pp_78 : av_PP 78 = some (1, cd_78) := rfl
theorem pp_79 : av_PP 79 = some (3, cd_79) := rfl
theorem pp_80 : av_PP 80 = some (2, cd_80) := rfl
theorem pp_81 : av_PP 81 = some (2, cd_81) := rfl
theorem pp_82 : av_PP 82 = some (2, cd_82) := rfl
theorem pp_83 : av_PP 83 = some (1, cd_83) := rfl
theorem pp_84 : av_PP 84 = some (1, cd_84) := rfl
theorem pp_85 : av_PP 85 = some (1, cd_85) := rfl
theorem pp_86 : av_PP 86 = some (7, cd_86) := rfl
theorem pp_87 : av_PP 87 = some (3, cd_87) := rfl
theorem pp_88 : av_PP 88 = some (2, cd_88) := rfl
theorem pp_89 : av_PP 89 = some (2, cd_89) := rfl
theorem pp_90 : av_PP 90 = some (1, cd_90) := rfl
theorem pp_91 : av_PP 91 = some (3, cd_91) := rfl
theorem pp_92 : av_PP 92 = some (4, cd_92) := rfl
theorem pp_93 : av_PP 93 = some (1, cd_93) := rfl
theorem pp_94 : av_PP 94 = some (6, cd_94) := rfl
theorem pp_95 : av_PP 95 = some (3, cd_95) := rfl
theorem pp_96 : av_PP 96 = some (5, cd_96) := rfl
theorem pp_97 : av_PP 97 = some (3, cd_97) := rfl
theorem pp_98 : av_PP 98 = some (3, cd_98) := rfl
theorem pp_99 : av_PP 99 = some (1, cd_99) := rfl
theorem pp_100 : av_PP 100 = some (1, cd_100) := rfl
theorem pp_101 : av_PP 101 = some (6, cd_101) := rfl
theorem pp_102 : av_PP 102 = some (1, cd_102) := rfl
theorem pp_103 : av_PP 103 = some (4, cd_103) := rfl
theorem pp_104 : av_PP 104 = some (6, cd_104) := rfl
theorem pp_105 : av_PP 105 = some (3, cd_105) := rfl
theorem pp_106 : av_PP 106 = some (7, cd_106) := rfl
theorem pp_107 : av_PP 107 = some (6, cd_107) := rfl
theorem pp_108 : av_PP 108 = some (4, cd_108) := rfl
theorem pp_109 : av_PP 109 = some (4, cd_109) := rfl
theorem pp_110 : av_PP 110 = some (3, cd_110) := rfl
theorem pp_111 : av_PP 111 = some (5, cd_111) := rfl
theorem pp_112 : av_PP 112 = some (8, cd_112) := rfl
theorem pp_113 : av_PP 113 = some (5, cd_113) := rfl
theorem pp_114 : av_PP 114 = some (8, cd_114) := rfl
theorem pp_115 : av_PP 115 = some (6, cd_115) := rfl
theorem pp_116 : av_PP 116 = some (5, cd_116) := rfl
theorem pp_117 : av_PP 117 = some (7, cd_117) := rfl
theorem pp_118 : av_PP 118 = some (6, cd_118) := rfl
theorem pp_119 : av_PP 119 = some (1, cd_119) := rfl
theorem pp_120 : av_PP 120 = some (5, cd_120) := rfl
theorem pp_121 : av_PP 121 = some (5, cd_121) := rfl
theorem pp_122 : av_PP 122 = some (4, cd_122) := rfl
theorem pp_123 : av_PP 123 = some (2, cd_123) := rfl
theorem pp_124 : av_PP 124 = some (2, cd_124) := rfl
theorem pp_125 : av_PP 125 = some (2, cd_125) := rfl
theorem pp_126 : av_PP 126 = some (1, cd_126) := rfl
theorem pp_127 : av_PP 127 = some (3, cd_127) := rfl
theorem pp_128 : av_PP 128 = some (8, cd_128) := rfl
theorem pp_129 : av_PP 129 = some (1, cd_129) := rfl
theorem pp_130 : av_PP 130 = some (2, cd_130) := rfl
theorem pp_131 : av_PP 131 = some (1, cd_131) := rfl
theorem pp_132 : av_PP 132 = some (3, cd_132) := rfl
theorem pp_133 : av_PP 133 = some (3, cd_133) := rfl
theorem pp_134 : av_PP 134 = some (4, cd_134) := rfl
theorem pp_135 : av_PP 135 = some (1, cd_135) := rfl
theorem pp_136 : av_PP 136 = some (2, cd_136) := rfl
theorem pp_137 : av_PP 137 = some (3, cd_137) := rfl
theorem pp_138 : av_PP 138 = some (1, cd_138) := rfl
theorem pp_139 : av_PP 139 = some (1, cd_139) := rfl
theorem pp_140 : av_PP 140 = some (1, cd_140) := rfl
theorem pp_141 : av_PP 141 = some (4, cd_141) := rfl
theorem pp_142 : av_PP 142 = some (5, cd_142) := rfl
theorem pp_143 : av_PP 143 = some (3, cd_143) := rfl
theorem pp_144 : av_PP 144 = some (2, cd_144) := rfl
theorem pp_145 : av_PP 145 = some (8, cd_145) := rfl
theorem pp_146 : av_PP 146 = some (6, cd_146) := rfl
theorem pp_147 : av_PP 147 = some (4, cd_147) := rfl
theorem pp_148 : av_PP 148 = some (3, cd_148) := rfl
theorem pp_149 : av_PP 149 = some (2, cd_149) := rfl
theorem pp_150 : av_PP 150 = some (2, cd_150) := rfl
theorem pp_151 : av_PP 151 = some (4, cd_151) := rfl
theorem pp_152 : av_PP 152 = some (2, cd_152) := rfl
theorem pp_153 : av_PP 153 = some (8, cd_153) := rfl
theorem pp_154 : av_PP 154 = some (5, cd_154) := rfl
theorem pp_155 : av_PP 155 = some (3, cd_155) := rfl
theorem pp_156 : av_PP 156 = some (2, cd_156) := rfl
theorem pp_157 : av_PP 157 = some (2, cd_157) := rfl
theorem pp_158 : av_PP 158 = some (1, cd_158) := rfl
theorem pp_159 : av_PP 159 = some (5, cd_159) := rfl
theorem pp_160 : av_PP 160 = some (3, cd_160) := rfl
theorem pp_161 : av_PP 161 = some (5, cd_161) := rfl
theorem pp_162 : av_PP 162 = some (5, cd_162) := rfl
theorem pp_163 : av_PP 163 = some (4, cd_163) := rfl
theorem pp_164 : av_PP 164 = some (1, cd_164) := rfl
theorem pp_165 : av_PP 165 = some (5, cd_165) := rfl
theorem pp_166 : av_PP 166 = some (3, cd_166) := rfl
theorem pp_167 : av_PP 167 = some (3, cd_167) := rfl
theorem pp_168 : av_PP 168 = some (2, cd_168) := rfl
theorem pp_169 : av_PP 169 = some (2, cd_169) := rfl
theorem pp_170 : av_PP 170 = some (2, cd_170) := rfl
theorem pp_171 : av_PP 171 = some (4, cd_171) := rfl
theorem pp_172 : av_PP 172 = some (3, cd_172) := rfl
theorem pp_173 : av_PP 173 = some (4, cd_173) := rfl
theorem pp_174 : av_PP 174 = some (3, cd_174) := rfl
theorem pp_175 : av_PP 175 = some (3, cd_175) := rfl
theorem pp_176 : av_PP 176 = some (2, cd_176) := rfl
theorem pp_177 : av_PP 177 = some (5, cd_177) := rfl
theorem pp_178 : av_PP 178 = some (4, cd_178) := rfl
theorem pp_179 : av_PP 179 = some (5, cd_179) := rfl
theorem pp_180 : av_PP 180 = some (4, cd_180) := rfl
theorem pp_181 : av_PP 181 = some (2, cd_181) := rfl
theorem pp_182 : av_PP 182 = some (4, cd_182) := rfl
theorem pp_183 : av_PP 183 = some (3, cd_183) := rfl
theorem pp_184 : av_PP 184 = some (2, cd_184) := rfl
theorem pp_185 : av_PP 185 = some (4, cd_185) := rfl
theorem pp_186 : av_PP 186 = some (4, cd_186) := rfl
theorem pp_187 : av_PP 187 = some (3, cd_187) := rfl
theorem pp_188 : av_PP 188 = some (3, cd_188) := rfl
theorem pp_189 : av_PP 189 = some (5, cd_189) := rfl
theorem pp_190 : av_PP 190 = some (5, cd_190) := rfl
theorem pp_191 : av_PP 191 = some (6, cd_191) := rfl
theorem pp_192 : av_PP 192 = some (4, cd_192) := rfl
theorem pp_193 : av_PP 193 = some (10, cd_193) := rfl
theorem pp_194 : av_PP 194 = some (3, cd_194) := rfl
theorem pp_195 : av_PP 195 = some (7, cd_195) := rfl
theorem pp_196 : av_PP 196 = some (5, cd_196) := rfl
theorem pp_197 : av_PP 197 = some (5, cd_197) := rfl
theorem pp_198 : av_PP 198 = some (8, cd_198) := rfl
theorem pp_199 : av_PP 199 = some (6, cd_199) := rfl
theorem pp_200 : av_PP 200 = some (7, cd_200) := rfl
theorem pp_201 : av_PP 201 = some (5, cd_201) := rfl
theorem pp_202 : av_PP 202 = some (5, cd_202) := rfl
theorem pp_203 : av_PP 203 = some (4, cd_203) := rfl
theorem pp_204 : av_PP 204 = some (4, cd_204) := rfl
theorem pp_205 : av_PP 205 = some (9, cd_205) := rfl
theorem pp_206 : av_PP 206 = some (5, cd_206) := rfl
theorem pp_207 : av_PP 207 = some (6, cd_207) := rfl
theorem pp_208 : av_PP 208 = some (7, cd_208) := rfl
theorem pp_209 : av_PP 209 = some (3, cd_209) := rfl
theorem pp_210 : av_PP 210 = some (4, cd_210) := rfl
theorem pp_211 : av_PP 211 = some (4, cd_211) := rfl
theorem pp_212 : av_PP 212 = some (5, cd_212) := rfl
theorem pp_213 : av_PP 213 = some (4, cd_213) := rfl
theorem pp_214 : av_PP 214 = some (1, cd_214) := rfl
theorem pp_215 : av_PP 215 = some (2, cd_215) := rfl
theorem pp_216 : av_PP 216 = some (3, cd_216) := rfl
theorem pp_217 : av_PP 217 = some (2, cd_217) := rfl
theorem pp_218 : av_PP 218 = some (1, cd_218) := rfl
theorem pp_219 : av_PP 219 = some (3, cd_219) := rfl
theorem pp_220 : av_PP 220 = some (4, cd_220) := rfl
theorem pp_221 : av_PP 221 = some (5, cd_221) := rfl
theorem pp_222 : av_PP 222 = some (3, cd_222) := rfl
set_option maxRecDepth 100000 in
set_option maxHeartbeats 8000000 in
theorem lk_L_0 : cd_L.lookup 0 = some (av_qa (.new 7) 7) := by decide +kernel
set_option maxRecDepth 100000 in
set_option maxHeartbeats 8000000 in
theorem lk_L_3 : cd_L.lookup 3 = some (av_q (.dup)) := by decide +kernel
set_option maxRecDepth 100000 in
set_option maxHeartbeats 8000000 in
theorem lk_L_4 : cd_L.lookup 4 = some (av_qc (.invokespecial 9) 93 0 1 7) := by decide +kernel
set_option maxRecDepth 100000 in
set_option maxHeartbeats 8000000 in
theorem lk_L_7 : cd_L.lookup 7 = some (av_q (.astore_n 1)) := by decide +kernel
set_option maxRecDepth 100000 in
set_option maxHeartbeats 8000000 in
theorem lk_L_8 : cd_L.lookup 8 = some (av_qa (.new 10) 8) := by decide +kernel
set_option maxRecDepth 100000 in
set_option maxHeartbeats 8000000 in
theorem lk_L_11 : cd_L.lookup 11 = some (av_q (.dup)) := by decide +kernel
set_option maxRecDepth 100000 in
set_option maxHeartbeats 8000000 in
theorem lk_L_12 : cd_L.lookup 12 = some (av_qc (.invokespecial 12) 126 0 1 8) := by decide +kernel
set_option maxRecDepth 100000 in
set_option maxHeartbeats 8000000 in
theorem lk_L_15 : cd_L.lookup 15 = some (av_q (.astore_n 2)) := by decide +kernel
set_option maxRecDepth 100000 in
set_option maxHeartbeats 8000000 in
theorem lk_L_16 : cd_L.lookup 16 = some (av_q (.iconst 0)) := by decide +kernel
set_option maxRecDepth 100000 in
set_option maxHeartbeats 8000000 in
theorem lk_L_17 : cd_L.lookup 17 = some (av_q (.istore_n 3)) := by decide +kernel
set_option maxRecDepth 100000 in
set_option maxHeartbeats 8000000 in
theorem lk_L_18 : cd_L.lookup 18 = some (av_q (.iload_n 3)) := by decide +kernel
set_option maxRecDepth 100000 in
set_option maxHeartbeats 8000000 in
theorem lk_L_19 : cd_L.lookup 19 = some (av_q (.aload_n 0)) := by decide +kernel
set_option maxRecDepth 100000 in
set_option maxHeartbeats 8000000 in
theorem lk_L_20 : cd_L.lookup 20 = some (av_q (.arraylength)) := by decide +kernel
set_option maxRecDepth 100000 in
set_option maxHeartbeats 8000000 in
theorem lk_L_21 : cd_L.lookup 21 = some (av_q (.bipush 6)) := by decide +kernel
set_option maxRecDepth 100000 in
set_option maxHeartbeats 8000000 in
theorem lk_L_23 : cd_L.lookup 23 = some (av_q (.isub)) := by decide +kernel
set_option maxRecDepth 100000 in
set_option maxHeartbeats 8000000 in
theorem lk_L_24 : cd_L.lookup 24 = some (av_qa (.if_icmp .gt 1266) 1290) := by decide +kernel
set_option maxRecDepth 100000 in
set_option maxHeartbeats 8000000 in
theorem lk_L_27 : cd_L.lookup 27 = some (av_q (.aload_n 0)) := by decide +kernel
set_option maxRecDepth 100000 in
set_option maxHeartbeats 8000000 in
theorem lk_L_28 : cd_L.lookup 28 = some (av_q (.iload_n 3)) := by decide +kernel
set_option maxRecDepth 100000 in
set_option maxHeartbeats 8000000 in
theorem lk_L_29 : cd_L.lookup 29 = some (av_q (.iaload)) := by decide +kernel
set_option maxRecDepth 100000 in
set_option maxHeartbeats 8000000 in
theorem lk_L_30 : cd_L.lookup 30 = some (av_q (.bipush 31)) := by decide +kernel
set_option maxRecDepth 100000 in
set_option maxHeartbeats 8000000 in
theorem lk_L_32 : cd_L.lookup 32 = some (av_q (.iand)) := by decide +kernel
set_option maxRecDepth 100000 in
set_option maxHeartbeats 8000000 in
theorem lk_L_33 : cd_L.lookup 33 = some (av_qw (.tableswitch 1251 0 27 #[127, 190, 213, 246, 269, 292, 305, 348, 381, 434, 467, 520, 583, 626, 669, 702, 755, 818, 871, 904, 927, 980, 1043, 1106, 1149, 1192, 1205, 1228]) 127) := by decide +kernel
set_option maxRecDepth 100000 in
set_option maxHeartbeats 8000000 in
theorem lk_L_160 : cd_L.lookup 160 = some (av_q (.aload_n 1)) := by decide +kernel
set_option maxRecDepth 100000 in
set_option maxHeartbeats 8000000 in
theorem lk_L_161 : cd_L.lookup 161 = some (av_q (.aload_n 0)) := by decide +kernel
set_option maxRecDepth 100000 in
set_option maxHeartbeats 8000000 in
theorem lk_L_162 : cd_L.lookup 162 = some (av_q (.iload_n 3)) := by decide +kernel
set_option maxRecDepth 100000 in
set_option maxHeartbeats 8000000 in
theorem lk_L_163 : cd_L.lookup 163 = some (av_q (.iconst 1)) := by decide +kernel
set_option maxRecDepth 100000 in
set_option maxHeartbeats 8000000 in
theorem lk_L_164 : cd_L.lookup 164 = some (av_q (.iadd)) := by decide +kernel
set_option maxRecDepth 100000 in
set_option maxHeartbeats 8000000 in
theorem lk_L_165 : cd_L.lookup 165 = some (av_q (.iaload)) := by decide +kernel
set_option maxRecDepth 100000 in
set_option maxHeartbeats 8000000 in
theorem lk_L_166 : cd_L.lookup 166 = some (av_q (.aload_n 0)) := by decide +kernel
set_option maxRecDepth 100000 in
set_option maxHeartbeats 8000000 in
theorem lk_L_167 : cd_L.lookup 167 = some (av_q (.iload_n 3)) := by decide +kernel
set_option maxRecDepth 100000 in
set_option maxHeartbeats 8000000 in
theorem lk_L_168 : cd_L.lookup 168 = some (av_q (.iconst 2)) := by decide +kernel
set_option maxRecDepth 100000 in
set_option maxHeartbeats 8000000 in
theorem lk_L_169 : cd_L.lookup 169 = some (av_q (.iadd)) := by decide +kernel
set_option maxRecDepth 100000 in
set_option maxHeartbeats 8000000 in
theorem lk_L_170 : cd_L.lookup 170 = some (av_q (.iaload)) := by decide +kernel
set_option maxRecDepth 100000 in
set_option maxHeartbeats 8000000 in
theorem lk_L_171 : cd_L.lookup 171 = some (av_q (.aload_n 0)) := by decide +kernel
set_option maxRecDepth 100000 in
set_option maxHeartbeats 8000000 in
theorem lk_L_172 : cd_L.lookup 172 = some (av_q (.iload_n 3)) := by decide +kernel
set_option maxRecDepth 100000 in
set_option maxHeartbeats 8000000 in
theorem lk_L_173 : cd_L.lookup 173 = some (av_q (.iconst 3)) := by decide +kernel
set_option maxRecDepth 100000 in
set_option maxHeartbeats 8000000 in
theorem lk_L_174 : cd_L.lookup 174 = some (av_q (.iadd)) := by decide +kernel
set_option maxRecDepth 100000 in
set_option maxHeartbeats 8000000 in
theorem lk_L_175 : cd_L.lookup 175 = some (av_q (.iaload)) := by decide +kernel
set_option maxRecDepth 100000 in
set_option maxHeartbeats 8000000 in
theorem lk_L_176 : cd_L.lookup 176 = some (av_q (.aload_n 0)) := by decide +kernel
set_option maxRecDepth 100000 in
set_option maxHeartbeats 8000000 in
theorem lk_L_177 : cd_L.lookup 177 = some (av_q (.iload_n 3)) := by decide +kernel
set_option maxRecDepth 100000 in
set_option maxHeartbeats 8000000 in
theorem lk_L_178 : cd_L.lookup 178 = some (av_q (.iconst 4)) := by decide +kernel
set_option maxRecDepth 100000 in
set_option maxHeartbeats 8000000 in
theorem lk_L_179 : cd_L.lookup 179 = some (av_q (.iadd)) := by decide +kernel
set_option maxRecDepth 100000 in
set_option maxHeartbeats 8000000 in
theorem lk_L_180 : cd_L.lookup 180 = some (av_q (.iaload)) := by decide +kernel
set_option maxRecDepth 100000 in
set_option maxHeartbeats 8000000 in
theorem lk_L_181 : cd_L.lookup 181 = some (av_q (.aload_n 0)) := by decide +kernel
set_option maxRecDepth 100000 in
set_option maxHeartbeats 8000000 in
theorem lk_L_182 : cd_L.lookup 182 = some (av_q (.iload_n 3)) := by decide +kernel
set_option maxRecDepth 100000 in
set_option maxHeartbeats 8000000 in
theorem lk_L_183 : cd_L.lookup 183 = some (av_q (.iconst 5)) := by decide +kernel
set_option maxRecDepth 100000 in
set_option maxHeartbeats 8000000 in
theorem lk_L_184 : cd_L.lookup 184 = some (av_q (.iadd)) := by decide +kernel
set_option maxRecDepth 100000 in
set_option maxHeartbeats 8000000 in
theorem lk_L_185 : cd_L.lookup 185 = some (av_q (.iaload)) := by decide +kernel
set_option maxRecDepth 100000 in
set_option maxHeartbeats 8000000 in
theorem lk_L_186 : cd_L.lookup 186 = some (av_qc (.invokevirtual 13) 94 5 0 7) := by decide +kernel
set_option maxRecDepth 100000 in
set_option maxHeartbeats 8000000 in
theorem lk_L_189 : cd_L.lookup 189 = some (av_q (.aload_n 2)) := by decide +kernel
set_option maxRecDepth 100000 in
set_option maxHeartbeats 8000000 in
theorem lk_L_190 : cd_L.lookup 190 = some (av_q (.aload_n 0)) := by decide +kernel
set_option maxRecDepth 100000 in
set_option maxHeartbeats 8000000 in
theorem lk_L_191 : cd_L.lookup 191 = some (av_q (.iload_n 3)) := by decide +kernel
set_option maxRecDepth 100000 in
set_option maxHeartbeats 8000000 in
theorem lk_L_192 : cd_L.lookup 192 = some (av_q (.iconst 1)) := by decide +kernel
set_option maxRecDepth 100000 in
set_option maxHeartbeats 8000000 in
theorem lk_L_193 : cd_L.lookup 193 = some (av_q (.iadd)) := by decide +kernel
set_option maxRecDepth 100000 in
set_option maxHeartbeats 8000000 in
theorem lk_L_194 : cd_L.lookup 194 = some (av_q (.iaload)) := by decide +kernel
set_option maxRecDepth 100000 in
set_option maxHeartbeats 8000000 in
theorem lk_L_195 : cd_L.lookup 195 = some (av_q (.aload_n 0)) := by decide +kernel
set_option maxRecDepth 100000 in
set_option maxHeartbeats 8000000 in
theorem lk_L_196 : cd_L.lookup 196 = some (av_q (.iload_n 3)) := by decide +kernel
set_option maxRecDepth 100000 in
set_option maxHeartbeats 8000000 in
theorem lk_L_197 : cd_L.lookup 197 = some (av_q (.iconst 2)) := by decide +kernel
set_option maxRecDepth 100000 in
set_option maxHeartbeats 8000000 in
theorem lk_L_198 : cd_L.lookup 198 = some (av_q (.iadd)) := by decide +kernel
set_option maxRecDepth 100000 in
set_option maxHeartbeats 8000000 in
theorem lk_L_199 : cd_L.lookup 199 = some (av_q (.iaload)) := by decide +kernel
set_option maxRecDepth 100000 in
set_option maxHeartbeats 8000000 in
theorem lk_L_200 : cd_L.lookup 200 = some (av_q (.aload_n 0)) := by decide +kernel
set_option maxRecDepth 100000 in
set_option maxHeartbeats 8000000 in
theorem lk_L_201 : cd_L.lookup 201 = some (av_q (.iload_n 3)) := by decide +kernel
set_option maxRecDepth 100000 in
set_option maxHeartbeats 8000000 in
theorem lk_L_202 : cd_L.lookup 202 = some (av_q (.iconst 3)) := by decide +kernel
set_option maxRecDepth 100000 in
set_option maxHeartbeats 8000000 in
theorem lk_L_203 : cd_L.lookup 203 = some (av_q (.iadd)) := by decide +kernel
set_option maxRecDepth 100000 in
set_option maxHeartbeats 8000000 in
theorem lk_L_204 : cd_L.lookup 204 = some (av_q (.iaload)) := by decide +kernel
set_option maxRecDepth 100000 in
set_option maxHeartbeats 8000000 in
theorem lk_L_205 : cd_L.lookup 205 = some (av_q (.aload_n 0)) := by decide +kernel
set_option maxRecDepth 100000 in
set_option maxHeartbeats 8000000 in
theorem lk_L_206 : cd_L.lookup 206 = some (av_q (.iload_n 3)) := by decide +kernel
set_option maxRecDepth 100000 in
set_option maxHeartbeats 8000000 in
theorem lk_L_207 : cd_L.lookup 207 = some (av_q (.iconst 4)) := by decide +kernel
set_option maxRecDepth 100000 in
set_option maxHeartbeats 8000000 in
theorem lk_L_208 : cd_L.lookup 208 = some (av_q (.iadd)) := by decide +kernel
set_option maxRecDepth 100000 in
set_option maxHeartbeats 8000000 in
theorem lk_L_209 : cd_L.lookup 209 = some (av_q (.iaload)) := by decide +kernel
set_option maxRecDepth 100000 in
set_option maxHeartbeats 8000000 in
theorem lk_L_210 : cd_L.lookup 210 = some (av_q (.aload_n 0)) := by decide +kernel
set_option maxRecDepth 100000 in
set_option maxHeartbeats 8000000 in
theorem lk_L_211 : cd_L.lookup 211 = some (av_q (.iload_n 3)) := by decide +kernel
set_option maxRecDepth 100000 in
set_option maxHeartbeats 8000000 in
theorem lk_L_212 : cd_L.lookup 212 = some (av_q (.iconst 5)) := by decide +kernel
set_option maxRecDepth 100000 in
set_option maxHeartbeats 8000000 in
theorem lk_L_213 : cd_L.lookup 213 = some (av_q (.iadd)) := by decide +kernel
set_option maxRecDepth 100000 in
set_option maxHeartbeats 8000000 in
theorem lk_L_214 : cd_L.lookup 214 = some (av_q (.iaload)) := by decide +kernel
set_option maxRecDepth 100000 in
set_option maxHeartbeats 8000000 in
theorem lk_L_215 : cd_L.lookup 215 = some (av_qc (.invokevirtual 17) 128 5 0 8) := by decide +kernel
set_option maxRecDepth 100000 in
set_option maxHeartbeats 8000000 in
theorem lk_L_218 : cd_L.lookup 218 = some (av_qa (.if_icmp .eq 1066) 1284) := by decide +kernel
set_option maxRecDepth 100000 in
set_option maxHeartbeats 8000000 in
theorem lk_L_223 : cd_L.lookup 223 = some (av_q (.aload_n 1)) := by decide +kernel
set_option maxRecDepth 100000 in
set_option maxHeartbeats 8000000 in
theorem lk_L_224 : cd_L.lookup 224 = some (av_q (.aload_n 0)) := by decide +kernel
set_option maxRecDepth 100000 in
set_option maxHeartbeats 8000000 in
theorem lk_L_225 : cd_L.lookup 225 = some (av_q (.iload_n 3)) := by decide +kernel
set_option maxRecDepth 100000 in
set_option maxHeartbeats 8000000 in
theorem lk_L_226 : cd_L.lookup 226 = some (av_q (.iconst 1)) := by decide +kernel
set_option maxRecDepth 100000 in
set_option maxHeartbeats 8000000 in
theorem lk_L_227 : cd_L.lookup 227 = some (av_q (.iadd)) := by decide +kernel
set_option maxRecDepth 100000 in
set_option maxHeartbeats 8000000 in
theorem lk_L_228 : cd_L.lookup 228 = some (av_q (.iaload)) := by decide +kernel
set_option maxRecDepth 100000 in
set_option maxHeartbeats 8000000 in
theorem lk_L_229 : cd_L.lookup 229 = some (av_qc (.invokevirtual 18) 95 1 0 7) := by decide +kernel
set_option maxRecDepth 100000 in
set_option maxHeartbeats 8000000 in
theorem lk_L_232 : cd_L.lookup 232 = some (av_q (.aload_n 2)) := by decide +kernel
set_option maxRecDepth 100000 in
set_option maxHeartbeats 8000000 in
theorem lk_L_233 : cd_L.lookup 233 = some (av_q (.aload_n 0)) := by decide +kernel
set_option maxRecDepth 100000 in
set_option maxHeartbeats 8000000 in
theorem lk_L_234 : cd_L.lookup 234 = some (av_q (.iload_n 3)) := by decide +kernel
set_option maxRecDepth 100000 in
set_option maxHeartbeats 8000000 in
theorem lk_L_235 : cd_L.lookup 235 = some (av_q (.iconst 1)) := by decide +kernel
set_option maxRecDepth 100000 in
set_option maxHeartbeats 8000000 in
theorem lk_L_236 : cd_L.lookup 236 = some (av_q (.iadd)) := by decide +kernel
set_option maxRecDepth 100000 in
set_option maxHeartbeats 8000000 in
theorem lk_L_237 : cd_L.lookup 237 = some (av_q (.iaload)) := by decide +kernel
set_option maxRecDepth 100000 in
set_option maxHeartbeats 8000000 in
theorem lk_L_238 : cd_L.lookup 238 = some (av_qc (.invokevirtual 22) 148 1 0 8) := by decide +kernel
set_option maxRecDepth 100000 in
set_option maxHeartbeats 8000000 in
theorem lk_L_241 : cd_L.lookup 241 = some (av_qa (.if_icmp .eq 1043) 1284) := by decide +kernel
set_option maxRecDepth 100000 in
set_option maxHeartbeats 8000000 in
theorem lk_L_246 : cd_L.lookup 246 = some (av_q (.aload_n 1)) := by decide +kernel
set_option maxRecDepth 100000 in
set_option maxHeartbeats 8000000 in
theorem lk_L_247 : cd_L.lookup 247 = some (av_q (.aload_n 0)) := by decide +kernel
set_option maxRecDepth 100000 in
set_option maxHeartbeats 8000000 in
theorem lk_L_248 : cd_L.lookup 248 = some (av_q (.iload_n 3)) := by decide +kernel
set_option maxRecDepth 100000 in
set_option maxHeartbeats 8000000 in
theorem lk_L_249 : cd_L.lookup 249 = some (av_q (.iconst 1)) := by decide +kernel
set_option maxRecDepth 100000 in
set_option maxHeartbeats 8000000 in
theorem lk_L_250 : cd_L.lookup 250 = some (av_q (.iadd)) := by decide +kernel
set_option maxRecDepth 100000 in
set_option maxHeartbeats 8000000 in
theorem lk_L_251 : cd_L.lookup 251 = some (av_q (.iaload)) := by decide +kernel
set_option maxRecDepth 100000 in
set_option maxHeartbeats 8000000 in
theorem lk_L_252 : cd_L.lookup 252 = some (av_q (.aload_n 0)) := by decide +kernel
set_option maxRecDepth 100000 in
set_option maxHeartbeats 8000000 in
theorem lk_L_253 : cd_L.lookup 253 = some (av_q (.iload_n 3)) := by decide +kernel
set_option maxRecDepth 100000 in
set_option maxHeartbeats 8000000 in
theorem lk_L_254 : cd_L.lookup 254 = some (av_q (.iconst 2)) := by decide +kernel
set_option maxRecDepth 100000 in
set_option maxHeartbeats 8000000 in
theorem lk_L_255 : cd_L.lookup 255 = some (av_q (.iadd)) := by decide +kernel
set_option maxRecDepth 100000 in
set_option maxHeartbeats 8000000 in
theorem lk_L_256 : cd_L.lookup 256 = some (av_q (.iaload)) := by decide +kernel
set_option maxRecDepth 100000 in
set_option maxHeartbeats 8000000 in
theorem lk_L_257 : cd_L.lookup 257 = some (av_qc (.invokevirtual 23) 96 2 0 7) := by decide +kernel
set_option maxRecDepth 100000 in
set_option maxHeartbeats 8000000 in
theorem lk_L_260 : cd_L.lookup 260 = some (av_q (.aload_n 2)) := by decide +kernel
set_option maxRecDepth 100000 in
set_option maxHeartbeats 8000000 in
theorem lk_L_261 : cd_L.lookup 261 = some (av_q (.aload_n 0)) := by decide +kernel
set_option maxRecDepth 100000 in
set_option maxHeartbeats 8000000 in
theorem lk_L_262 : cd_L.lookup 262 = some (av_q (.iload_n 3)) := by decide +kernel
set_option maxRecDepth 100000 in
set_option maxHeartbeats 8000000 in
theorem lk_L_263 : cd_L.lookup 263 = some (av_q (.iconst 1)) := by decide +kernel
set_option maxRecDepth 100000 in
set_option maxHeartbeats 8000000 in
theorem lk_L_264 : cd_L.lookup 264 = some (av_q (.iadd)) := by decide +kernel
set_option maxRecDepth 100000 in
set_option maxHeartbeats 8000000 in
theorem lk_L_265 : cd_L.lookup 265 = some (av_q (.iaload)) := by decide +kernel
set_option maxRecDepth 100000 in
set_option maxHeartbeats 8000000 in
theorem lk_L_266 : cd_L.lookup 266 = some (av_q (.aload_n 0)) := by decide +kernel
set_option maxRecDepth 100000 in
set_option maxHeartbeats 8000000 in
theorem lk_L_267 : cd_L.lookup 267 = some (av_q (.iload_n 3)) := by decide +kernel
set_option maxRecDepth 100000 in
set_option maxHeartbeats 8000000 in
theorem lk_L_268 : cd_L.lookup 268 = some (av_q (.iconst 2)) := by decide +kernel
set_option maxRecDepth 100000 in
set_option maxHeartbeats 8000000 in
theorem lk_L_269 : cd_L.lookup 269 = some (av_q (.iadd)) := by decide +kernel
set_option maxRecDepth 100000 in
set_option maxHeartbeats 8000000 in
theorem lk_L_270 : cd_L.lookup 270 = some (av_q (.iaload)) := by decide +kernel
set_option maxRecDepth 100000 in
set_option maxHeartbeats 8000000 in
theorem lk_L_271 : cd_L.lookup 271 = some (av_qc (.invokevirtual 27) 151 2 0 8) := by decide +kernel
set_option maxRecDepth 100000 in
set_option maxHeartbeats 8000000 in
theorem lk_L_274 : cd_L.lookup 274 = some (av_qa (.if_icmp .eq 1010) 1284) := by decide +kernel
set_option maxRecDepth 100000 in
set_option maxHeartbeats 8000000 in
theorem lk_L_279 : cd_L.lookup 279 = some (av_q (.aload_n 1)) := by decide +kernel
set_option maxRecDepth 100000 in
set_option maxHeartbeats 8000000 in
theorem lk_L_280 : cd_L.lookup 280 = some (av_q (.aload_n 0)) := by decide +kernel
set_option maxRecDepth 100000 in
set_option maxHeartbeats 8000000 in
theorem lk_L_281 : cd_L.lookup 281 = some (av_q (.iload_n 3)) := by decide +kernel
set_option maxRecDepth 100000 in
set_option maxHeartbeats 8000000 in
theorem lk_L_282 : cd_L.lookup 282 = some (av_q (.iconst 1)) := by decide +kernel
set_option maxRecDepth 100000 in
set_option maxHeartbeats 8000000 in
theorem lk_L_283 : cd_L.lookup 283 = some (av_q (.iadd)) := by decide +kernel
set_option maxRecDepth 100000 in
set_option maxHeartbeats 8000000 in
theorem lk_L_284 : cd_L.lookup 284 = some (av_q (.iaload)) := by decide +kernel
set_option maxRecDepth 100000 in
set_option maxHeartbeats 8000000 in
theorem lk_L_285 : cd_L.lookup 285 = some (av_qc (.invokevirtual 28) 97 1 0 7) := by decide +kernel
set_option maxRecDepth 100000 in
set_option maxHeartbeats 8000000 in
theorem lk_L_288 : cd_L.lookup 288 = some (av_q (.aload_n 2)) := by decide +kernel
set_option maxRecDepth 100000 in
set_option maxHeartbeats 8000000 in
theorem lk_L_289 : cd_L.lookup 289 = some (av_q (.aload_n 0)) := by decide +kernel
set_option maxRecDepth 100000 in
set_option maxHeartbeats 8000000 in
theorem lk_L_290 : cd_L.lookup 290 = some (av_q (.iload_n 3)) := by decide +kernel
set_option maxRecDepth 100000 in
set_option maxHeartbeats 8000000 in
theorem lk_L_291 : cd_L.lookup 291 = some (av_q (.iconst 1)) := by decide +kernel
set_option maxRecDepth 100000 in
set_option maxHeartbeats 8000000 in
theorem lk_L_292 : cd_L.lookup 292 = some (av_q (.iadd)) := by decide +kernel
set_option maxRecDepth 100000 in
set_option maxHeartbeats 8000000 in
theorem lk_L_293 : cd_L.lookup 293 = some (av_q (.iaload)) := by decide +kernel
set_option maxRecDepth 100000 in
set_option maxHeartbeats 8000000 in
theorem lk_L_294 : cd_L.lookup 294 = some (av_qc (.invokevirtual 31) 156 1 0 8) := by decide +kernel
set_option maxRecDepth 100000 in
set_option maxHeartbeats 8000000 in
theorem lk_L_297 : cd_L.lookup 297 = some (av_qa (.if_icmp .eq 987) 1284) := by decide +kernel
set_option maxRecDepth 100000 in
set_option maxHeartbeats 8000000 in
theorem lk_L_302 : cd_L.lookup 302 = some (av_q (.aload_n 1)) := by decide +kernel
set_option maxRecDepth 100000 in
set_option maxHeartbeats 8000000 in
theorem lk_L_303 : cd_L.lookup 303 = some (av_q (.aload_n 0)) := by decide +kernel
set_option maxRecDepth 100000 in
set_option maxHeartbeats 8000000 in
theorem lk_L_304 : cd_L.lookup 304 = some (av_q (.iload_n 3)) := by decide +kernel
set_option maxRecDepth 100000 in
set_option maxHeartbeats 8000000 in
theorem lk_L_305 : cd_L.lookup 305 = some (av_q (.iconst 1)) := by decide +kernel
set_option maxRecDepth 100000 in
set_option maxHeartbeats 8000000 in
theorem lk_L_306 : cd_L.lookup 306 = some (av_q (.iadd)) := by decide +kernel
set_option maxRecDepth 100000 in
set_option maxHeartbeats 8000000 in
theorem lk_L_307 : cd_L.lookup 307 = some (av_q (.iaload)) := by decide +kernel
set_option maxRecDepth 100000 in
set_option maxHeartbeats 8000000 in
theorem lk_L_308 : cd_L.lookup 308 = some (av_qc (.invokevirtual 32) 98 1 0 7) := by decide +kernel
set_option maxRecDepth 100000 in
set_option maxHeartbeats 8000000 in
theorem lk_L_311 : cd_L.lookup 311 = some (av_q (.aload_n 2)) := by decide +kernel
set_option maxRecDepth 100000 in
set_option maxHeartbeats 8000000 in
theorem lk_L_312 : cd_L.lookup 312 = some (av_q (.aload_n 0)) := by decide +kernel
set_option maxRecDepth 100000 in
set_option maxHeartbeats 8000000 in
theorem lk_L_313 : cd_L.lookup 313 = some (av_q (.iload_n 3)) := by decide +kernel
set_option maxRecDepth 100000 in
set_option maxHeartbeats 8000000 in
theorem lk_L_314 : cd_L.lookup 314 = some (av_q (.iconst 1)) := by decide +kernel
set_option maxRecDepth 100000 in
set_option maxHeartbeats 8000000 in
theorem lk_L_315 : cd_L.lookup 315 = some (av_q (.iadd)) := by decide +kernel
set_option maxRecDepth 100000 in
set_option maxHeartbeats 8000000 in
theorem lk_L_316 : cd_L.lookup 316 = some (av_q (.iaload)) := by decide +kernel
set_option maxRecDepth 100000 in
set_option maxHeartbeats 8000000 in
theorem lk_L_317 : cd_L.lookup 317 = some (av_qc (.invokevirtual 35) 157 1 0 8) := by decide +kernel
set_option maxRecDepth 100000 in
set_option maxHeartbeats 8000000 in
theorem lk_L_320 : cd_L.lookup 320 = some (av_qa (.if_icmp .eq 964) 1284) := by decide +kernel
set_option maxRecDepth 100000 in
set_option maxHeartbeats 8000000 in
theorem lk_L_325 : cd_L.lookup 325 = some (av_q (.aload_n 1)) := by decide +kernel
set_option maxRecDepth 100000 in
set_option maxHeartbeats 8000000 in
theorem lk_L_326 : cd_L.lookup 326 = some (av_qc (.invokevirtual 36) 100 0 0 7) := by decide +kernel
set_option maxRecDepth 100000 in
set_option maxHeartbeats 8000000 in
theorem lk_L_329 : cd_L.lookup 329 = some (av_q (.aload_n 2)) := by decide +kernel
set_option maxRecDepth 100000 in
set_option maxHeartbeats 8000000 in
theorem lk_L_330 : cd_L.lookup 330 = some (av_qc (.invokevirtual 40) 158 0 0 8) := by decide +kernel
set_option maxRecDepth 100000 in
set_option maxHeartbeats 8000000 in
theorem lk_L_333 : cd_L.lookup 333 = some (av_qa (.if_icmp .eq 951) 1284) := by decide +kernel
set_option maxRecDepth 100000 in
set_option maxHeartbeats 8000000 in
theorem lk_L_338 : cd_L.lookup 338 = some (av_q (.aload_n 1)) := by decide +kernel
set_option maxRecDepth 100000 in
set_option maxHeartbeats 8000000 in
theorem lk_L_339 : cd_L.lookup 339 = some (av_q (.aload_n 0)) := by decide +kernel
set_option maxRecDepth 100000 in
set_option maxHeartbeats 8000000 in
theorem lk_L_340 : cd_L.lookup 340 = some (av_q (.iload_n 3)) := by decide +kernel
set_option maxRecDepth 100000 in
set_option maxHeartbeats 8000000 in
theorem lk_L_341 : cd_L.lookup 341 = some (av_q (.iconst 1)) := by decide +kernel
set_option maxRecDepth 100000 in
set_option maxHeartbeats 8000000 in
theorem lk_L_342 : cd_L.lookup 342 = some (av_q (.iadd)) := by decide +kernel
set_option maxRecDepth 100000 in
set_option maxHeartbeats 8000000 in
theorem lk_L_343 : cd_L.lookup 343 = some (av_q (.iaload)) := by decide +kernel
set_option maxRecDepth 100000 in
set_option maxHeartbeats 8000000 in
theorem lk_L_344 : cd_L.lookup 344 = some (av_q (.aload_n 0)) := by decide +kernel
set_option maxRecDepth 100000 in
set_option maxHeartbeats 8000000 in
theorem lk_L_345 : cd_L.lookup 345 = some (av_q (.iload_n 3)) := by decide +kernel
set_option maxRecDepth 100000 in
set_option maxHeartbeats 8000000 in
theorem lk_L_346 : cd_L.lookup 346 = some (av_q (.iconst 2)) := by decide +kernel
set_option maxRecDepth 100000 in
set_option maxHeartbeats 8000000 in
theorem lk_L_347 : cd_L.lookup 347 = some (av_q (.iadd)) := by decide +kernel
set_option maxRecDepth 100000 in
set_option maxHeartbeats 8000000 in
theorem lk_L_348 : cd_L.lookup 348 = some (av_q (.iaload)) := by decide +kernel
set_option maxRecDepth 100000 in
set_option maxHeartbeats 8000000 in
theorem lk_L_349 : cd_L.lookup 349 = some (av_q (.aload_n 0)) := by decide +kernel
set_option maxRecDepth 100000 in
set_option maxHeartbeats 8000000 in
theorem lk_L_350 : cd_L.lookup 350 = some (av_q (.iload_n 3)) := by decide +kernel
set_option maxRecDepth 100000 in
set_option maxHeartbeats 8000000 in
theorem lk_L_351 : cd_L.lookup 351 = some (av_q (.iconst 3)) := by decide +kernel
set_option maxRecDepth 100000 in
set_option maxHeartbeats 8000000 in
theorem lk_L_352 : cd_L.lookup 352 = some (av_q (.iadd)) := by decide +kernel
set_option maxRecDepth 100000 in
set_option maxHeartbeats 8000000 in
theorem lk_L_353 : cd_L.lookup 353 = some (av_q (.iaload)) := by decide +kernel
set_option maxRecDepth 100000 in
set_option maxHeartbeats 8000000 in
theorem lk_L_354 : cd_L.lookup 354 = some (av_qc (.invokevirtual 41) 101 3 0 7) := by decide +kernel
set_option maxRecDepth 100000 in
set_option maxHeartbeats 8000000 in
theorem lk_L_357 : cd_L.lookup 357 = some (av_q (.aload_n 2)) := by decide +kernel
set_option maxRecDepth 100000 in
set_option maxHeartbeats 8000000 in
theorem lk_L_358 : cd_L.lookup 358 = some (av_q (.aload_n 0)) := by decide +kernel
set_option maxRecDepth 100000 in
set_option maxHeartbeats 8000000 in
theorem lk_L_359 : cd_L.lookup 359 = some (av_q (.iload_n 3)) := by decide +kernel
set_option maxRecDepth 100000 in
set_option maxHeartbeats 8000000 in
theorem lk_L_360 : cd_L.lookup 360 = some (av_q (.iconst 1)) := by decide +kernel
set_option maxRecDepth 100000 in
set_option maxHeartbeats 8000000 in
theorem lk_L_361 : cd_L.lookup 361 = some (av_q (.iadd)) := by decide +kernel
set_option maxRecDepth 100000 in
set_option maxHeartbeats 8000000 in
theorem lk_L_362 : cd_L.lookup 362 = some (av_q (.iaload)) := by decide +kernel
set_option maxRecDepth 100000 in
set_option maxHeartbeats 8000000 in
theorem lk_L_363 : cd_L.lookup 363 = some (av_q (.aload_n 0)) := by decide +kernel
set_option maxRecDepth 100000 in
set_option maxHeartbeats 8000000 in
theorem lk_L_364 : cd_L.lookup 364 = some (av_q (.iload_n 3)) := by decide +kernel
set_option maxRecDepth 100000 in
set_option maxHeartbeats 8000000 in
theorem lk_L_365 : cd_L.lookup 365 = some (av_q (.iconst 2)) := by decide +kernel
set_option maxRecDepth 100000 in
set_option maxHeartbeats 8000000 in
theorem lk_L_366 : cd_L.lookup 366 = some (av_q (.iadd)) := by decide +kernel
set_option maxRecDepth 100000 in
set_option maxHeartbeats 8000000 in
theorem lk_L_367 : cd_L.lookup 367 = some (av_q (.iaload)) := by decide +kernel
set_option maxRecDepth 100000 in
set_option maxHeartbeats 8000000 in
theorem lk_L_368 : cd_L.lookup 368 = some (av_q (.aload_n 0)) := by decide +kernel
set_option maxRecDepth 100000 in
set_option maxHeartbeats 8000000 in
theorem lk_L_369 : cd_L.lookup 369 = some (av_q (.iload_n 3)) := by decide +kernel
set_option maxRecDepth 100000 in
set_option maxHeartbeats 8000000 in
theorem lk_L_370 : cd_L.lookup 370 = some (av_q (.iconst 3)) := by decide +kernel
set_option maxRecDepth 100000 in
set_option maxHeartbeats 8000000 in
theorem lk_L_371 : cd_L.lookup 371 = some (av_q (.iadd)) := by decide +kernel
set_option maxRecDepth 100000 in
set_option maxHeartbeats 8000000 in
theorem lk_L_372 : cd_L.lookup 372 = some (av_q (.iaload)) := by decide +kernel
set_option maxRecDepth 100000 in
set_option maxHeartbeats 8000000 in
theorem lk_L_373 : cd_L.lookup 373 = some (av_qc (.invokevirtual 45) 161 3 0 8) := by decide +kernel
set_option maxRecDepth 100000 in
set_option maxHeartbeats 8000000 in
theorem lk_L_376 : cd_L.lookup 376 = some (av_qa (.if_icmp .eq 908) 1284) := by decide +kernel
set_option maxRecDepth 100000 in
set_option maxHeartbeats 8000000 in
theorem lk_L_381 : cd_L.lookup 381 = some (av_q (.aload_n 1)) := by decide +kernel
set_option maxRecDepth 100000 in
set_option maxHeartbeats 8000000 in
theorem lk_L_382 : cd_L.lookup 382 = some (av_q (.aload_n 0)) := by decide +kernel
set_option maxRecDepth 100000 in
set_option maxHeartbeats 8000000 in
theorem lk_L_383 : cd_L.lookup 383 = some (av_q (.iload_n 3)) := by decide +kernel
set_option maxRecDepth 100000 in
set_option maxHeartbeats 8000000 in
theorem lk_L_384 : cd_L.lookup 384 = some (av_q (.iconst 1)) := by decide +kernel
set_option maxRecDepth 100000 in
set_option maxHeartbeats 8000000 in
theorem lk_L_385 : cd_L.lookup 385 = some (av_q (.iadd)) := by decide +kernel
set_option maxRecDepth 100000 in
set_option maxHeartbeats 8000000 in
theorem lk_L_386 : cd_L.lookup 386 = some (av_q (.iaload)) := by decide +kernel
set_option maxRecDepth 100000 in
set_option maxHeartbeats 8000000 in
theorem lk_L_387 : cd_L.lookup 387 = some (av_q (.aload_n 0)) := by decide +kernel
set_option maxRecDepth 100000 in
set_option maxHeartbeats 8000000 in
theorem lk_L_388 : cd_L.lookup 388 = some (av_q (.iload_n 3)) := by decide +kernel
set_option maxRecDepth 100000 in
set_option maxHeartbeats 8000000 in
theorem lk_L_389 : cd_L.lookup 389 = some (av_q (.iconst 2)) := by decide +kernel
set_option maxRecDepth 100000 in
set_option maxHeartbeats 8000000 in
theorem lk_L_390 : cd_L.lookup 390 = some (av_q (.iadd)) := by decide +kernel
set_option maxRecDepth 100000 in
set_option maxHeartbeats 8000000 in
theorem lk_L_391 : cd_L.lookup 391 = some (av_q (.iaload)) := by decide +kernel
set_option maxRecDepth 100000 in
set_option maxHeartbeats 8000000 in
theorem lk_L_392 : cd_L.lookup 392 = some (av_qc (.invokevirtual 46) 103 2 0 7) := by decide +kernel
set_option maxRecDepth 100000 in
set_option maxHeartbeats 8000000 in
theorem lk_L_395 : cd_L.lookup 395 = some (av_q (.aload_n 2)) := by decide +kernel
set_option maxRecDepth 100000 in
set_option maxHeartbeats 8000000 in
theorem lk_L_396 : cd_L.lookup 396 = some (av_q (.aload_n 0)) := by decide +kernel
set_option maxRecDepth 100000 in
set_option maxHeartbeats 8000000 in
theorem lk_L_397 : cd_L.lookup 397 = some (av_q (.iload_n 3)) := by decide +kernel
set_option maxRecDepth 100000 in
set_option maxHeartbeats 8000000 in
theorem lk_L_398 : cd_L.lookup 398 = some (av_q (.iconst 1)) := by decide +kernel
set_option maxRecDepth 100000 in
set_option maxHeartbeats 8000000 in
theorem lk_L_399 : cd_L.lookup 399 = some (av_q (.iadd)) := by decide +kernel
set_option maxRecDepth 100000 in
set_option maxHeartbeats 8000000 in
theorem lk_L_400 : cd_L.lookup 400 = some (av_q (.iaload)) := by decide +kernel
set_option maxRecDepth 100000 in
set_option maxHeartbeats 8000000 in
theorem lk_L_401 : cd_L.lookup 401 = some (av_q (.aload_n 0)) := by decide +kernel
set_option maxRecDepth 100000 in
set_option maxHeartbeats 8000000 in
theorem lk_L_402 : cd_L.lookup 402 = some (av_q (.iload_n 3)) := by decide +kernel
set_option maxRecDepth 100000 in
set_option maxHeartbeats 8000000 in
theorem lk_L_403 : cd_L.lookup 403 = some (av_q (.iconst 2)) := by decide +kernel
set_option maxRecDepth 100000 in
set_option maxHeartbeats 8000000 in
theorem lk_L_404 : cd_L.lookup 404 = some (av_q (.iadd)) := by decide +kernel
set_option maxRecDepth 100000 in
set_option maxHeartbeats 8000000 in
theorem lk_L_405 : cd_L.lookup 405 = some (av_q (.iaload)) := by decide +kernel
set_option maxRecDepth 100000 in
set_option maxHeartbeats 8000000 in
theorem lk_L_406 : cd_L.lookup 406 = some (av_qc (.invokevirtual 49) 187 2 0 8) := by decide +kernel
set_option maxRecDepth 100000 in
set_option maxHeartbeats 8000000 in
theorem lk_L_409 : cd_L.lookup 409 = some (av_qa (.if_icmp .eq 875) 1284) := by decide +kernel
set_option maxRecDepth 100000 in
set_option maxHeartbeats 8000000 in
theorem lk_L_414 : cd_L.lookup 414 = some (av_q (.aload_n 1)) := by decide +kernel
set_option maxRecDepth 100000 in
set_option maxHeartbeats 8000000 in
theorem lk_L_415 : cd_L.lookup 415 = some (av_q (.aload_n 0)) := by decide +kernel
set_option maxRecDepth 100000 in
set_option maxHeartbeats 8000000 in
theorem lk_L_416 : cd_L.lookup 416 = some (av_q (.iload_n 3)) := by decide +kernel
set_option maxRecDepth 100000 in
set_option maxHeartbeats 8000000 in
theorem lk_L_417 : cd_L.lookup 417 = some (av_q (.iconst 1)) := by decide +kernel
set_option maxRecDepth 100000 in
set_option maxHeartbeats 8000000 in
theorem lk_L_418 : cd_L.lookup 418 = some (av_q (.iadd)) := by decide +kernel
set_option maxRecDepth 100000 in
set_option maxHeartbeats 8000000 in
theorem lk_L_419 : cd_L.lookup 419 = some (av_q (.iaload)) := by decide +kernel
set_option maxRecDepth 100000 in
set_option maxHeartbeats 8000000 in
theorem lk_L_420 : cd_L.lookup 420 = some (av_q (.aload_n 0)) := by decide +kernel
set_option maxRecDepth 100000 in
set_option maxHeartbeats 8000000 in
theorem lk_L_421 : cd_L.lookup 421 = some (av_q (.iload_n 3)) := by decide +kernel
set_option maxRecDepth 100000 in
set_option maxHeartbeats 8000000 in
theorem lk_L_422 : cd_L.lookup 422 = some (av_q (.iconst 2)) := by decide +kernel
set_option maxRecDepth 100000 in
set_option maxHeartbeats 8000000 in
theorem lk_L_423 : cd_L.lookup 423 = some (av_q (.iadd)) := by decide +kernel
set_option maxRecDepth 100000 in
set_option maxHeartbeats 8000000 in
theorem lk_L_424 : cd_L.lookup 424 = some (av_q (.iaload)) := by decide +kernel
set_option maxRecDepth 100000 in
set_option maxHeartbeats 8000000 in
theorem lk_L_425 : cd_L.lookup 425 = some (av_q (.aload_n 0)) := by decide +kernel
set_option maxRecDepth 100000 in
set_option maxHeartbeats 8000000 in
theorem lk_L_426 : cd_L.lookup 426 = some (av_q (.iload_n 3)) := by decide +kernel
set_option maxRecDepth 100000 in
set_option maxHeartbeats 8000000 in
theorem lk_L_427 : cd_L.lookup 427 = some (av_q (.iconst 3)) := by decide +kernel
set_option maxRecDepth 100000 in
set_option maxHeartbeats 8000000 in
theorem lk_L_428 : cd_L.lookup 428 = some (av_q (.iadd)) := by decide +kernel
set_option maxRecDepth 100000 in
set_option maxHeartbeats 8000000 in
theorem lk_L_429 : cd_L.lookup 429 = some (av_q (.iaload)) := by decide +kernel
set_option maxRecDepth 100000 in
set_option maxHeartbeats 8000000 in
theorem lk_L_430 : cd_L.lookup 430 = some (av_q (.aload_n 0)) := by decide +kernel
set_option maxRecDepth 100000 in
set_option maxHeartbeats 8000000 in
theorem lk_L_431 : cd_L.lookup 431 = some (av_q (.iload_n 3)) := by decide +kernel
set_option maxRecDepth 100000 in
set_option maxHeartbeats 8000000 in
theorem lk_L_432 : cd_L.lookup 432 = some (av_q (.iconst 4)) := by decide +kernel
set_option maxRecDepth 100000 in
set_option maxHeartbeats 8000000 in
theorem lk_L_433 : cd_L.lookup 433 = some (av_q (.iadd)) := by decide +kernel
set_option maxRecDepth 100000 in
set_option maxHeartbeats 8000000 in
theorem lk_L_434 : cd_L.lookup 434 = some (av_q (.iaload)) := by decide +kernel
set_option maxRecDepth 100000 in
set_option maxHeartbeats 8000000 in
theorem lk_L_435 : cd_L.lookup 435 = some (av_qc (.invokevirtual 50) 104 4 0 7) := by decide +kernel
set_option maxRecDepth 100000 in
set_option maxHeartbeats 8000000 in
theorem lk_L_438 : cd_L.lookup 438 = some (av_q (.aload_n 2)) := by decide +kernel
set_option maxRecDepth 100000 in
set_option maxHeartbeats 8000000 in
theorem lk_L_439 : cd_L.lookup 439 = some (av_q (.aload_n 0)) := by decide +kernel
set_option maxRecDepth 100000 in
set_option maxHeartbeats 8000000 in
theorem lk_L_440 : cd_L.lookup 440 = some (av_q (.iload_n 3)) := by decide +kernel
set_option maxRecDepth 100000 in
set_option maxHeartbeats 8000000 in
theorem lk_L_441 : cd_L.lookup 441 = some (av_q (.iconst 1)) := by decide +kernel
set_option maxRecDepth 100000 in
set_option maxHeartbeats 8000000 in
theorem lk_L_442 : cd_L.lookup 442 = some (av_q (.iadd)) := by decide +kernel
set_option maxRecDepth 100000 in
set_option maxHeartbeats 8000000 in
theorem lk_L_443 : cd_L.lookup 443 = some (av_q (.iaload)) := by decide +kernel
set_option maxRecDepth 100000 in
set_option maxHeartbeats 8000000 in
theorem lk_L_444 : cd_L.lookup 444 = some (av_q (.aload_n 0)) := by decide +kernel
set_option maxRecDepth 100000 in
set_option maxHeartbeats 8000000 in
theorem lk_L_445 : cd_L.lookup 445 = some (av_q (.iload_n 3)) := by decide +kernel
set_option maxRecDepth 100000 in
set_option maxHeartbeats 8000000 in
theorem lk_L_446 : cd_L.lookup 446 = some (av_q (.iconst 2)) := by decide +kernel
set_option maxRecDepth 100000 in
set_option maxHeartbeats 8000000 in
theorem lk_L_447 : cd_L.lookup 447 = some (av_q (.iadd)) := by decide +kernel
set_option maxRecDepth 100000 in
set_option maxHeartbeats 8000000 in
theorem lk_L_448 : cd_L.lookup 448 = some (av_q (.iaload)) := by decide +kernel
set_option maxRecDepth 100000 in
set_option maxHeartbeats 8000000 in
theorem lk_L_449 : cd_L.lookup 449 = some (av_q (.aload_n 0)) := by decide +kernel
set_option maxRecDepth 100000 in
set_option maxHeartbeats 8000000 in
theorem lk_L_450 : cd_L.lookup 450 = some (av_q (.iload_n 3)) := by decide +kernel
set_option maxRecDepth 100000 in
set_option maxHeartbeats 8000000 in
theorem lk_L_451 : cd_L.lookup 451 = some (av_q (.iconst 3)) := by decide +kernel
set_option maxRecDepth 100000 in
set_option maxHeartbeats 8000000 in
theorem lk_L_452 : cd_L.lookup 452 = some (av_q (.iadd)) := by decide +kernel
set_option maxRecDepth 100000 in
set_option maxHeartbeats 8000000 in
theorem lk_L_453 : cd_L.lookup 453 = some (av_q (.iaload)) := by decide +kernel
set_option maxRecDepth 100000 in
set_option maxHeartbeats 8000000 in
theorem lk_L_454 : cd_L.lookup 454 = some (av_q (.aload_n 0)) := by decide +kernel
set_option maxRecDepth 100000 in
set_option maxHeartbeats 8000000 in
theorem lk_L_455 : cd_L.lookup 455 = some (av_q (.iload_n 3)) := by decide +kernel
set_option maxRecDepth 100000 in
set_option maxHeartbeats 8000000 in
theorem lk_L_456 : cd_L.lookup 456 = some (av_q (.iconst 4)) := by decide +kernel
set_option maxRecDepth 100000 in
set_option maxHeartbeats 8000000 in
theorem lk_L_457 : cd_L.lookup 457 = some (av_q (.iadd)) := by decide +kernel
set_option maxRecDepth 100000 in
set_option maxHeartbeats 8000000 in
theorem lk_L_458 : cd_L.lookup 458 = some (av_q (.iaload)) := by decide +kernel
set_option maxRecDepth 100000 in
set_option maxHeartbeats 8000000 in
theorem lk_L_459 : cd_L.lookup 459 = some (av_qc (.invokevirtual 54) 189 4 0 8) := by decide +kernel
set_option maxRecDepth 100000 in
set_option maxHeartbeats 8000000 in
theorem lk_L_462 : cd_L.lookup 462 = some (av_qa (.if_icmp .eq 822) 1284) := by decide +kernel
set_option maxRecDepth 100000 in
set_option maxHeartbeats 8000000 in
theorem lk_L_467 : cd_L.lookup 467 = some (av_q (.aload_n 1)) := by decide +kernel
set_option maxRecDepth 100000 in
set_option maxHeartbeats 8000000 in
theorem lk_L_468 : cd_L.lookup 468 = some (av_q (.aload_n 0)) := by decide +kernel
set_option maxRecDepth 100000 in
set_option maxHeartbeats 8000000 in
theorem lk_L_469 : cd_L.lookup 469 = some (av_q (.iload_n 3)) := by decide +kernel
set_option maxRecDepth 100000 in
set_option maxHeartbeats 8000000 in
theorem lk_L_470 : cd_L.lookup 470 = some (av_q (.iconst 1)) := by decide +kernel
set_option maxRecDepth 100000 in
set_option maxHeartbeats 8000000 in
theorem lk_L_471 : cd_L.lookup 471 = some (av_q (.iadd)) := by decide +kernel
set_option maxRecDepth 100000 in
set_option maxHeartbeats 8000000 in
theorem lk_L_472 : cd_L.lookup 472 = some (av_q (.iaload)) := by decide +kernel
set_option maxRecDepth 100000 in
set_option maxHeartbeats 8000000 in
theorem lk_L_473 : cd_L.lookup 473 = some (av_q (.aload_n 0)) := by decide +kernel
set_option maxRecDepth 100000 in
set_option maxHeartbeats 8000000 in
theorem lk_L_474 : cd_L.lookup 474 = some (av_q (.iload_n 3)) := by decide +kernel
set_option maxRecDepth 100000 in
set_option maxHeartbeats 8000000 in
theorem lk_L_475 : cd_L.lookup 475 = some (av_q (.iconst 2)) := by decide +kernel
set_option maxRecDepth 100000 in
set_option maxHeartbeats 8000000 in
theorem lk_L_476 : cd_L.lookup 476 = some (av_q (.iadd)) := by decide +kernel
set_option maxRecDepth 100000 in
set_option maxHeartbeats 8000000 in
theorem lk_L_477 : cd_L.lookup 477 = some (av_q (.iaload)) := by decide +kernel
set_option maxRecDepth 100000 in
set_option maxHeartbeats 8000000 in
theorem lk_L_478 : cd_L.lookup 478 = some (av_qc (.invokevirtual 55) 105 2 0 7) := by decide +kernel
set_option maxRecDepth 100000 in
set_option maxHeartbeats 8000000 in
theorem lk_L_481 : cd_L.lookup 481 = some (av_q (.aload_n 2)) := by decide +kernel
set_option maxRecDepth 100000 in
set_option maxHeartbeats 8000000 in
theorem lk_L_482 : cd_L.lookup 482 = some (av_q (.aload_n 0)) := by decide +kernel
set_option maxRecDepth 100000 in
set_option maxHeartbeats 8000000 in
theorem lk_L_483 : cd_L.lookup 483 = some (av_q (.iload_n 3)) := by decide +kernel
set_option maxRecDepth 100000 in
set_option maxHeartbeats 8000000 in
theorem lk_L_484 : cd_L.lookup 484 = some (av_q (.iconst 1)) := by decide +kernel
set_option maxRecDepth 100000 in
set_option maxHeartbeats 8000000 in
theorem lk_L_485 : cd_L.lookup 485 = some (av_q (.iadd)) := by decide +kernel
set_option maxRecDepth 100000 in
set_option maxHeartbeats 8000000 in
theorem lk_L_486 : cd_L.lookup 486 = some (av_q (.iaload)) := by decide +kernel
set_option maxRecDepth 100000 in
set_option maxHeartbeats 8000000 in
theorem lk_L_487 : cd_L.lookup 487 = some (av_q (.aload_n 0)) := by decide +kernel
set_option maxRecDepth 100000 in
set_option maxHeartbeats 8000000 in
theorem lk_L_488 : cd_L.lookup 488 = some (av_q (.iload_n 3)) := by decide +kernel
set_option maxRecDepth 100000 in
set_option maxHeartbeats 8000000 in
theorem lk_L_489 : cd_L.lookup 489 = some (av_q (.iconst 2)) := by decide +kernel
set_option maxRecDepth 100000 in
set_option maxHeartbeats 8000000 in
theorem lk_L_490 : cd_L.lookup 490 = some (av_q (.iadd)) := by decide +kernel
set_option maxRecDepth 100000 in
set_option maxHeartbeats 8000000 in
theorem lk_L_491 : cd_L.lookup 491 = some (av_q (.iaload)) := by decide +kernel
set_option maxRecDepth 100000 in
set_option maxHeartbeats 8000000 in
theorem lk_L_492 : cd_L.lookup 492 = some (av_qc (.invokevirtual 58) 160 2 0 8) := by decide +kernel
set_option maxRecDepth 100000 in
set_option maxHeartbeats 8000000 in
theorem lk_L_495 : cd_L.lookup 495 = some (av_qa (.if_icmp .eq 789) 1284) := by decide +kernel
set_option maxRecDepth 100000 in
set_option maxHeartbeats 8000000 in
theorem lk_L_500 : cd_L.lookup 500 = some (av_q (.aload_n 1)) := by decide +kernel
set_option maxRecDepth 100000 in
set_option maxHeartbeats 8000000 in
theorem lk_L_501 : cd_L.lookup 501 = some (av_q (.aload_n 0)) := by decide +kernel
set_option maxRecDepth 100000 in
set_option maxHeartbeats 8000000 in
theorem lk_L_502 : cd_L.lookup 502 = some (av_q (.iload_n 3)) := by decide +kernel
set_option maxRecDepth 100000 in
set_option maxHeartbeats 8000000 in
theorem lk_L_503 : cd_L.lookup 503 = some (av_q (.iconst 1)) := by decide +kernel
set_option maxRecDepth 100000 in
set_option maxHeartbeats 8000000 in
theorem lk_L_504 : cd_L.lookup 504 = some (av_q (.iadd)) := by decide +kernel
set_option maxRecDepth 100000 in
set_option maxHeartbeats 8000000 in
theorem lk_L_505 : cd_L.lookup 505 = some (av_q (.iaload)) := by decide +kernel
set_option maxRecDepth 100000 in
set_option maxHeartbeats 8000000 in
theorem lk_L_506 : cd_L.lookup 506 = some (av_q (.aload_n 0)) := by decide +kernel
set_option maxRecDepth 100000 in
set_option maxHeartbeats 8000000 in
theorem lk_L_507 : cd_L.lookup 507 = some (av_q (.iload_n 3)) := by decide +kernel
set_option maxRecDepth 100000 in
set_option maxHeartbeats 8000000 in
theorem lk_L_508 : cd_L.lookup 508 = some (av_q (.iconst 2)) := by decide +kernel
set_option maxRecDepth 100000 in
set_option maxHeartbeats 8000000 in
theorem lk_L_509 : cd_L.lookup 509 = some (av_q (.iadd)) := by decide +kernel
set_option maxRecDepth 100000 in
set_option maxHeartbeats 8000000 in
theorem lk_L_510 : cd_L.lookup 510 = some (av_q (.iaload)) := by decide +kernel
set_option maxRecDepth 100000 in
set_option maxHeartbeats 8000000 in
theorem lk_L_511 : cd_L.lookup 511 = some (av_q (.aload_n 0)) := by decide +kernel
set_option maxRecDepth 100000 in
set_option maxHeartbeats 8000000 in
theorem lk_L_512 : cd_L.lookup 512 = some (av_q (.iload_n 3)) := by decide +kernel
set_option maxRecDepth 100000 in
set_option maxHeartbeats 8000000 in
theorem lk_L_513 : cd_L.lookup 513 = some (av_q (.iconst 3)) := by decide +kernel
set_option maxRecDepth 100000 in
set_option maxHeartbeats 8000000 in
theorem lk_L_514 : cd_L.lookup 514 = some (av_q (.iadd)) := by decide +kernel
set_option maxRecDepth 100000 in
set_option maxHeartbeats 8000000 in
theorem lk_L_515 : cd_L.lookup 515 = some (av_q (.iaload)) := by decide +kernel
set_option maxRecDepth 100000 in
set_option maxHeartbeats 8000000 in
theorem lk_L_516 : cd_L.lookup 516 = some (av_q (.aload_n 0)) := by decide +kernel
set_option maxRecDepth 100000 in
set_option maxHeartbeats 8000000 in
theorem lk_L_517 : cd_L.lookup 517 = some (av_q (.iload_n 3)) := by decide +kernel
set_option maxRecDepth 100000 in
set_option maxHeartbeats 8000000 in
theorem lk_L_518 : cd_L.lookup 518 = some (av_q (.iconst 4)) := by decide +kernel
set_option maxRecDepth 100000 in
set_option maxHeartbeats 8000000 in
theorem lk_L_519 : cd_L.lookup 519 = some (av_q (.iadd)) := by decide +kernel
set_option maxRecDepth 100000 in
set_option maxHeartbeats 8000000 in
theorem lk_L_520 : cd_L.lookup 520 = some (av_q (.iaload)) := by decide +kernel
set_option maxRecDepth 100000 in
set_option maxHeartbeats 8000000 in
theorem lk_L_521 : cd_L.lookup 521 = some (av_qc (.invokevirtual 59) 106 4 0 7) := by decide +kernel
set_option maxRecDepth 100000 in
set_option maxHeartbeats 8000000 in
theorem lk_L_524 : cd_L.lookup 524 = some (av_q (.aload_n 2)) := by decide +kernel
set_option maxRecDepth 100000 in
set_option maxHeartbeats 8000000 in
theorem lk_L_525 : cd_L.lookup 525 = some (av_q (.aload_n 0)) := by decide +kernel
set_option maxRecDepth 100000 in
set_option maxHeartbeats 8000000 in
theorem lk_L_526 : cd_L.lookup 526 = some (av_q (.iload_n 3)) := by decide +kernel
set_option maxRecDepth 100000 in
set_option maxHeartbeats 8000000 in
theorem lk_L_527 : cd_L.lookup 527 = some (av_q (.iconst 1)) := by decide +kernel
set_option maxRecDepth 100000 in
set_option maxHeartbeats 8000000 in
theorem lk_L_528 : cd_L.lookup 528 = some (av_q (.iadd)) := by decide +kernel
set_option maxRecDepth 100000 in
set_option maxHeartbeats 8000000 in
theorem lk_L_529 : cd_L.lookup 529 = some (av_q (.iaload)) := by decide +kernel
set_option maxRecDepth 100000 in
set_option maxHeartbeats 8000000 in
theorem lk_L_530 : cd_L.lookup 530 = some (av_q (.aload_n 0)) := by decide +kernel
set_option maxRecDepth 100000 in
set_option maxHeartbeats 8000000 in
theorem lk_L_531 : cd_L.lookup 531 = some (av_q (.iload_n 3)) := by decide +kernel
set_option maxRecDepth 100000 in
set_option maxHeartbeats 8000000 in
theorem lk_L_532 : cd_L.lookup 532 = some (av_q (.iconst 2)) := by decide +kernel
set_option maxRecDepth 100000 in
set_option maxHeartbeats 8000000 in
theorem lk_L_533 : cd_L.lookup 533 = some (av_q (.iadd)) := by decide +kernel
set_option maxRecDepth 100000 in
set_option maxHeartbeats 8000000 in
theorem lk_L_534 : cd_L.lookup 534 = some (av_q (.iaload)) := by decide +kernel
set_option maxRecDepth 100000 in
set_option maxHeartbeats 8000000 in
theorem lk_L_535 : cd_L.lookup 535 = some (av_q (.aload_n 0)) := by decide +kernel
set_option maxRecDepth 100000 in
set_option maxHeartbeats 8000000 in
theorem lk_L_536 : cd_L.lookup 536 = some (av_q (.iload_n 3)) := by decide +kernel
set_option maxRecDepth 100000 in
set_option maxHeartbeats 8000000 in
theorem lk_L_537 : cd_L.lookup 537 = some (av_q (.iconst 3)) := by decide +kernel
set_option maxRecDepth 100000 in
set_option maxHeartbeats 8000000 in
theorem lk_L_538 : cd_L.lookup 538 = some (av_q (.iadd)) := by decide +kernel
set_option maxRecDepth 100000 in
set_option maxHeartbeats 8000000 in
theorem lk_L_539 : cd_L.lookup 539 = some (av_q (.iaload)) := by decide +kernel
set_option maxRecDepth 100000 in
set_option maxHeartbeats 8000000 in
theorem lk_L_540 : cd_L.lookup 540 = some (av_q (.aload_n 0)) := by decide +kernel
set_option maxRecDepth 100000 in
set_option maxHeartbeats 8000000 in
theorem lk_L_541 : cd_L.lookup 541 = some (av_q (.iload_n 3)) := by decide +kernel
set_option maxRecDepth 100000 in
set_option maxHeartbeats 8000000 in
theorem lk_L_542 : cd_L.lookup 542 = some (av_q (.iconst 4)) := by decide +kernel
set_option maxRecDepth 100000 in
set_option maxHeartbeats 8000000 in
theorem lk_L_543 : cd_L.lookup 543 = some (av_q (.iadd)) := by decide +kernel
set_option maxRecDepth 100000 in
set_option maxHeartbeats 8000000 in
theorem lk_L_544 : cd_L.lookup 544 = some (av_q (.iaload)) := by decide +kernel
set_option maxRecDepth 100000 in
set_option maxHeartbeats 8000000 in
theorem lk_L_545 : cd_L.lookup 545 = some (av_qc (.invokevirtual 62) 190 4 0 8) := by decide +kernel
set_option maxRecDepth 100000 in
set_option maxHeartbeats 8000000 in
theorem lk_L_548 : cd_L.lookup 548 = some (av_qa (.if_icmp .eq 736) 1284) := by decide +kernel
set_option maxRecDepth 100000 in
set_option maxHeartbeats 8000000 in
theorem lk_L_553 : cd_L.lookup 553 = some (av_q (.aload_n 1)) := by decide +kernel
set_option maxRecDepth 100000 in
set_option maxHeartbeats 8000000 in
theorem lk_L_554 : cd_L.lookup 554 = some (av_q (.aload_n 0)) := by decide +kernel
set_option maxRecDepth 100000 in
set_option maxHeartbeats 8000000 in
theorem lk_L_555 : cd_L.lookup 555 = some (av_q (.iload_n 3)) := by decide +kernel
set_option maxRecDepth 100000 in
set_option maxHeartbeats 8000000 in
theorem lk_L_556 : cd_L.lookup 556 = some (av_q (.iconst 1)) := by decide +kernel
set_option maxRecDepth 100000 in
set_option maxHeartbeats 8000000 in
theorem lk_L_557 : cd_L.lookup 557 = some (av_q (.iadd)) := by decide +kernel
set_option maxRecDepth 100000 in
set_option maxHeartbeats 8000000 in
theorem lk_L_558 : cd_L.lookup 558 = some (av_q (.iaload)) := by decide +kernel
set_option maxRecDepth 100000 in
set_option maxHeartbeats 8000000 in
theorem lk_L_559 : cd_L.lookup 559 = some (av_q (.aload_n 0)) := by decide +kernel
set_option maxRecDepth 100000 in
set_option maxHeartbeats 8000000 in
theorem lk_L_560 : cd_L.lookup 560 = some (av_q (.iload_n 3)) := by decide +kernel
set_option maxRecDepth 100000 in
set_option maxHeartbeats 8000000 in
theorem lk_L_561 : cd_L.lookup 561 = some (av_q (.iconst 2)) := by decide +kernel
set_option maxRecDepth 100000 in
set_option maxHeartbeats 8000000 in
theorem lk_L_562 : cd_L.lookup 562 = some (av_q (.iadd)) := by decide +kernel
set_option maxRecDepth 100000 in
set_option maxHeartbeats 8000000 in
theorem lk_L_563 : cd_L.lookup 563 = some (av_q (.iaload)) := by decide +kernel
set_option maxRecDepth 100000 in
set_option maxHeartbeats 8000000 in
theorem lk_L_564 : cd_L.lookup 564 = some (av_q (.aload_n 0)) := by decide +kernel
set_option maxRecDepth 100000 in
set_option maxHeartbeats 8000000 in
theorem lk_L_565 : cd_L.lookup 565 = some (av_q (.iload_n 3)) := by decide +kernel
set_option maxRecDepth 100000 in
set_option maxHeartbeats 8000000 in
theorem lk_L_566 : cd_L.lookup 566 = some (av_q (.iconst 3)) := by decide +kernel
set_option maxRecDepth 100000 in
set_option maxHeartbeats 8000000 in
theorem lk_L_567 : cd_L.lookup 567 = some (av_q (.iadd)) := by decide +kernel
set_option maxRecDepth 100000 in
set_option maxHeartbeats 8000000 in
theorem lk_L_568 : cd_L.lookup 568 = some (av_q (.iaload)) := by decide +kernel
set_option maxRecDepth 100000 in
set_option maxHeartbeats 8000000 in
theorem lk_L_569 : cd_L.lookup 569 = some (av_q (.aload_n 0)) := by decide +kernel
set_option maxRecDepth 100000 in
set_option maxHeartbeats 8000000 in
theorem lk_L_570 : cd_L.lookup 570 = some (av_q (.iload_n 3)) := by decide +kernel
set_option maxRecDepth 100000 in
set_option maxHeartbeats 8000000 in
theorem lk_L_571 : cd_L.lookup 571 = some (av_q (.iconst 4)) := by decide +kernel
set_option maxRecDepth 100000 in
set_option maxHeartbeats 8000000 in
theorem lk_L_572 : cd_L.lookup 572 = some (av_q (.iadd)) := by decide +kernel
set_option maxRecDepth 100000 in
set_option maxHeartbeats 8000000 in
theorem lk_L_573 : cd_L.lookup 573 = some (av_q (.iaload)) := by decide +kernel
set_option maxRecDepth 100000 in
set_option maxHeartbeats 8000000 in
theorem lk_L_574 : cd_L.lookup 574 = some (av_q (.aload_n 0)) := by decide +kernel
set_option maxRecDepth 100000 in
set_option maxHeartbeats 8000000 in
theorem lk_L_575 : cd_L.lookup 575 = some (av_q (.iload_n 3)) := by decide +kernel
set_option maxRecDepth 100000 in
set_option maxHeartbeats 8000000 in
theorem lk_L_576 : cd_L.lookup 576 = some (av_q (.iconst 5)) := by decide +kernel
set_option maxRecDepth 100000 in
set_option maxHeartbeats 8000000 in
theorem lk_L_577 : cd_L.lookup 577 = some (av_q (.iadd)) := by decide +kernel
set_option maxRecDepth 100000 in
set_option maxHeartbeats 8000000 in
theorem lk_L_578 : cd_L.lookup 578 = some (av_q (.iaload)) := by decide +kernel
set_option maxRecDepth 100000 in
set_option maxHeartbeats 8000000 in
theorem lk_L_579 : cd_L.lookup 579 = some (av_qc (.invokevirtual 63) 107 5 0 7) := by decide +kernel
set_option maxRecDepth 100000 in
set_option maxHeartbeats 8000000 in
theorem lk_L_582 : cd_L.lookup 582 = some (av_q (.aload_n 2)) := by decide +kernel
set_option maxRecDepth 100000 in
set_option maxHeartbeats 8000000 in
theorem lk_L_583 : cd_L.lookup 583 = some (av_q (.aload_n 0)) := by decide +kernel
set_option maxRecDepth 100000 in
set_option maxHeartbeats 8000000 in
theorem lk_L_584 : cd_L.lookup 584 = some (av_q (.iload_n 3)) := by decide +kernel
set_option maxRecDepth 100000 in
set_option maxHeartbeats 8000000 in
theorem lk_L_585 : cd_L.lookup 585 = some (av_q (.iconst 1)) := by decide +kernel
set_option maxRecDepth 100000 in
set_option maxHeartbeats 8000000 in
theorem lk_L_586 : cd_L.lookup 586 = some (av_q (.iadd)) := by decide +kernel
set_option maxRecDepth 100000 in
set_option maxHeartbeats 8000000 in
theorem lk_L_587 : cd_L.lookup 587 = some (av_q (.iaload)) := by decide +kernel
set_option maxRecDepth 100000 in
set_option maxHeartbeats 8000000 in
theorem lk_L_588 : cd_L.lookup 588 = some (av_q (.aload_n 0)) := by decide +kernel
set_option maxRecDepth 100000 in
set_option maxHeartbeats 8000000 in
theorem lk_L_589 : cd_L.lookup 589 = some (av_q (.iload_n 3)) := by decide +kernel
set_option maxRecDepth 100000 in
set_option maxHeartbeats 8000000 in
theorem lk_L_590 : cd_L.lookup 590 = some (av_q (.iconst 2)) := by decide +kernel
set_option maxRecDepth 100000 in
set_option maxHeartbeats 8000000 in
theorem lk_L_591 : cd_L.lookup 591 = some (av_q (.iadd)) := by decide +kernel
set_option maxRecDepth 100000 in
set_option maxHeartbeats 8000000 in
theorem lk_L_592 : cd_L.lookup 592 = some (av_q (.iaload)) := by decide +kernel
set_option maxRecDepth 100000 in
set_option maxHeartbeats 8000000 in
theorem lk_L_593 : cd_L.lookup 593 = some (av_q (.aload_n 0)) := by decide +kernel
set_option maxRecDepth 100000 in
set_option maxHeartbeats 8000000 in
theorem lk_L_594 : cd_L.lookup 594 = some (av_q (.iload_n 3)) := by decide +kernel
set_option maxRecDepth 100000 in
set_option maxHeartbeats 8000000 in
theorem lk_L_595 : cd_L.lookup 595 = some (av_q (.iconst 3)) := by decide +kernel
set_option maxRecDepth 100000 in
set_option maxHeartbeats 8000000 in
theorem lk_L_596 : cd_L.lookup 596 = some (av_q (.iadd)) := by decide +kernel
set_option maxRecDepth 100000 in
set_option maxHeartbeats 8000000 in
theorem lk_L_597 : cd_L.lookup 597 = some (av_q (.iaload)) := by decide +kernel
set_option maxRecDepth 100000 in
set_option maxHeartbeats 8000000 in
theorem lk_L_598 : cd_L.lookup 598 = some (av_q (.aload_n 0)) := by decide +kernel
set_option maxRecDepth 100000 in
set_option maxHeartbeats 8000000 in
theorem lk_L_599 : cd_L.lookup 599 = some (av_q (.iload_n 3)) := by decide +kernel
set_option maxRecDepth 100000 in
set_option maxHeartbeats 8000000 in
theorem lk_L_600 : cd_L.lookup 600 = some (av_q (.iconst 4)) := by decide +kernel
set_option maxRecDepth 100000 in
set_option maxHeartbeats 8000000 in
theorem lk_L_601 : cd_L.lookup 601 = some (av_q (.iadd)) := by decide +kernel
set_option maxRecDepth 100000 in
set_option maxHeartbeats 8000000 in
theorem lk_L_602 : cd_L.lookup 602 = some (av_q (.iaload)) := by decide +kernel
set_option maxRecDepth 100000 in
set_option maxHeartbeats 8000000 in
theorem lk_L_603 : cd_L.lookup 603 = some (av_q (.aload_n 0)) := by decide +kernel
set_option maxRecDepth 100000 in
set_option maxHeartbeats 8000000 in
theorem lk_L_604 : cd_L.lookup 604 = some (av_q (.iload_n 3)) := by decide +kernel
set_option maxRecDepth 100000 in
set_option maxHeartbeats 8000000 in
theorem lk_L_605 : cd_L.lookup 605 = some (av_q (.iconst 5)) := by decide +kernel
set_option maxRecDepth 100000 in
set_option maxHeartbeats 8000000 in
theorem lk_L_606 : cd_L.lookup 606 = some (av_q (.iadd)) := by decide +kernel
set_option maxRecDepth 100000 in
set_option maxHeartbeats 8000000 in
theorem lk_L_607 : cd_L.lookup 607 = some (av_q (.iaload)) := by decide +kernel
set_option maxRecDepth 100000 in
set_option maxHeartbeats 8000000 in
theorem lk_L_608 : cd_L.lookup 608 = some (av_qc (.invokevirtual 66) 191 5 0 8) := by decide +kernel
set_option maxRecDepth 100000 in
set_option maxHeartbeats 8000000 in
theorem lk_L_611 : cd_L.lookup 611 = some (av_qa (.if_icmp .eq 673) 1284) := by decide +kernel
set_option maxRecDepth 100000 in
set_option maxHeartbeats 8000000 in
theorem lk_L_616 : cd_L.lookup 616 = some (av_q (.aload_n 1)) := by decide +kernel
set_option maxRecDepth 100000 in
set_option maxHeartbeats 8000000 in
theorem lk_L_617 : cd_L.lookup 617 = some (av_q (.aload_n 0)) := by decide +kernel
set_option maxRecDepth 100000 in
set_option maxHeartbeats 8000000 in
theorem lk_L_618 : cd_L.lookup 618 = some (av_q (.iload_n 3)) := by decide +kernel
set_option maxRecDepth 100000 in
set_option maxHeartbeats 8000000 in
theorem lk_L_619 : cd_L.lookup 619 = some (av_q (.iconst 1)) := by decide +kernel
set_option maxRecDepth 100000 in
set_option maxHeartbeats 8000000 in
theorem lk_L_620 : cd_L.lookup 620 = some (av_q (.iadd)) := by decide +kernel
set_option maxRecDepth 100000 in
set_option maxHeartbeats 8000000 in
theorem lk_L_621 : cd_L.lookup 621 = some (av_q (.iaload)) := by decide +kernel
set_option maxRecDepth 100000 in
set_option maxHeartbeats 8000000 in
theorem lk_L_622 : cd_L.lookup 622 = some (av_q (.aload_n 0)) := by decide +kernel
set_option maxRecDepth 100000 in
set_option maxHeartbeats 8000000 in
theorem lk_L_623 : cd_L.lookup 623 = some (av_q (.iload_n 3)) := by decide +kernel
set_option maxRecDepth 100000 in
set_option maxHeartbeats 8000000 in
theorem lk_L_624 : cd_L.lookup 624 = some (av_q (.iconst 2)) := by decide +kernel
set_option maxRecDepth 100000 in
set_option maxHeartbeats 8000000 in
theorem lk_L_625 : cd_L.lookup 625 = some (av_q (.iadd)) := by decide +kernel
set_option maxRecDepth 100000 in
set_option maxHeartbeats 8000000 in
theorem lk_L_626 : cd_L.lookup 626 = some (av_q (.iaload)) := by decide +kernel
set_option maxRecDepth 100000 in
set_option maxHeartbeats 8000000 in
theorem lk_L_627 : cd_L.lookup 627 = some (av_q (.aload_n 0)) := by decide +kernel
set_option maxRecDepth 100000 in
set_option maxHeartbeats 8000000 in
theorem lk_L_628 : cd_L.lookup 628 = some (av_q (.iload_n 3)) := by decide +kernel
set_option maxRecDepth 100000 in
set_option maxHeartbeats 8000000 in
theorem lk_L_629 : cd_L.lookup 629 = some (av_q (.iconst 3)) := by decide +kernel
set_option maxRecDepth 100000 in
set_option maxHeartbeats 8000000 in
theorem lk_L_630 : cd_L.lookup 630 = some (av_q (.iadd)) := by decide +kernel
set_option maxRecDepth 100000 in
set_option maxHeartbeats 8000000 in
theorem lk_L_631 : cd_L.lookup 631 = some (av_q (.iaload)) := by decide +kernel
set_option maxRecDepth 100000 in
set_option maxHeartbeats 8000000 in
theorem lk_L_632 : cd_L.lookup 632 = some (av_qc (.invokevirtual 67) 108 3 0 7) := by decide +kernel
set_option maxRecDepth 100000 in
set_option maxHeartbeats 8000000 in
theorem lk_L_635 : cd_L.lookup 635 = some (av_q (.aload_n 2)) := by decide +kernel
set_option maxRecDepth 100000 in
set_option maxHeartbeats 8000000 in
theorem lk_L_636 : cd_L.lookup 636 = some (av_q (.aload_n 0)) := by decide +kernel
set_option maxRecDepth 100000 in
set_option maxHeartbeats 8000000 in
theorem lk_L_637 : cd_L.lookup 637 = some (av_q (.iload_n 3)) := by decide +kernel
set_option maxRecDepth 100000 in
set_option maxHeartbeats 8000000 in
theorem lk_L_638 : cd_L.lookup 638 = some (av_q (.iconst 1)) := by decide +kernel
set_option maxRecDepth 100000 in
set_option maxHeartbeats 8000000 in
theorem lk_L_639 : cd_L.lookup 639 = some (av_q (.iadd)) := by decide +kernel
set_option maxRecDepth 100000 in
set_option maxHeartbeats 8000000 in
theorem lk_L_640 : cd_L.lookup 640 = some (av_q (.iaload)) := by decide +kernel
set_option maxRecDepth 100000 in
set_option maxHeartbeats 8000000 in
theorem lk_L_641 : cd_L.lookup 641 = some (av_q (.aload_n 0)) := by decide +kernel
set_option maxRecDepth 100000 in
set_option maxHeartbeats 8000000 in
theorem lk_L_642 : cd_L.lookup 642 = some (av_q (.iload_n 3)) := by decide +kernel
set_option maxRecDepth 100000 in
set_option maxHeartbeats 8000000 in
theorem lk_L_643 : cd_L.lookup 643 = some (av_q (.iconst 2)) := by decide +kernel
set_option maxRecDepth 100000 in
set_option maxHeartbeats 8000000 in
theorem lk_L_644 : cd_L.lookup 644 = some (av_q (.iadd)) := by decide +kernel
set_option maxRecDepth 100000 in
set_option maxHeartbeats 8000000 in
theorem lk_L_645 : cd_L.lookup 645 = some (av_q (.iaload)) := by decide +kernel
set_option maxRecDepth 100000 in
set_option maxHeartbeats 8000000 in
theorem lk_L_646 : cd_L.lookup 646 = some (av_q (.aload_n 0)) := by decide +kernel
set_option maxRecDepth 100000 in
set_option maxHeartbeats 8000000 in
theorem lk_L_647 : cd_L.lookup 647 = some (av_q (.iload_n 3)) := by decide +kernel
set_option maxRecDepth 100000 in
set_option maxHeartbeats 8000000 in
theorem lk_L_648 : cd_L.lookup 648 = some (av_q (.iconst 3)) := by decide +kernel
set_option maxRecDepth 100000 in
set_option maxHeartbeats 8000000 in
theorem lk_L_649 : cd_L.lookup 649 = some (av_q (.iadd)) := by decide +kernel
set_option maxRecDepth 100000 in
set_option maxHeartbeats 8000000 in
theorem lk_L_650 : cd_L.lookup 650 = some (av_q (.iaload)) := by decide +kernel
set_option maxRecDepth 100000 in
set_option maxHeartbeats 8000000 in
theorem lk_L_651 : cd_L.lookup 651 = some (av_qc (.invokevirtual 70) 192 3 0 8) := by decide +kernel
set_option maxRecDepth 100000 in
set_option maxHeartbeats 8000000 in
theorem lk_L_654 : cd_L.lookup 654 = some (av_qa (.if_icmp .eq 630) 1284) := by decide +kernel
set_option maxRecDepth 100000 in
set_option maxHeartbeats 8000000 in
theorem lk_L_659 : cd_L.lookup 659 = some (av_q (.aload_n 1)) := by decide +kernel
set_option maxRecDepth 100000 in
set_option maxHeartbeats 8000000 in
theorem lk_L_660 : cd_L.lookup 660 = some (av_q (.aload_n 0)) := by decide +kernel
set_option maxRecDepth 100000 in
set_option maxHeartbeats 8000000 in
theorem lk_L_661 : cd_L.lookup 661 = some (av_q (.iload_n 3)) := by decide +kernel
set_option maxRecDepth 100000 in
set_option maxHeartbeats 8000000 in
theorem lk_L_662 : cd_L.lookup 662 = some (av_q (.iconst 1)) := by decide +kernel
set_option maxRecDepth 100000 in
set_option maxHeartbeats 8000000 in
theorem lk_L_663 : cd_L.lookup 663 = some (av_q (.iadd)) := by decide +kernel
set_option maxRecDepth 100000 in
set_option maxHeartbeats 8000000 in
theorem lk_L_664 : cd_L.lookup 664 = some (av_q (.iaload)) := by decide +kernel
set_option maxRecDepth 100000 in
set_option maxHeartbeats 8000000 in
theorem lk_L_665 : cd_L.lookup 665 = some (av_q (.aload_n 0)) := by decide +kernel
set_option maxRecDepth 100000 in
set_option maxHeartbeats 8000000 in
theorem lk_L_666 : cd_L.lookup 666 = some (av_q (.iload_n 3)) := by decide +kernel
set_option maxRecDepth 100000 in
set_option maxHeartbeats 8000000 in
theorem lk_L_667 : cd_L.lookup 667 = some (av_q (.iconst 2)) := by decide +kernel
set_option maxRecDepth 100000 in
set_option maxHeartbeats 8000000 in
theorem lk_L_668 : cd_L.lookup 668 = some (av_q (.iadd)) := by decide +kernel
set_option maxRecDepth 100000 in
set_option maxHeartbeats 8000000 in
theorem lk_L_669 : cd_L.lookup 669 = some (av_q (.iaload)) := by decide +kernel
set_option maxRecDepth 100000 in
set_option maxHeartbeats 8000000 in
theorem lk_L_670 : cd_L.lookup 670 = some (av_q (.aload_n 0)) := by decide +kernel
set_option maxRecDepth 100000 in
set_option maxHeartbeats 8000000 in
theorem lk_L_671 : cd_L.lookup 671 = some (av_q (.iload_n 3)) := by decide +kernel
set_option maxRecDepth 100000 in
set_option maxHeartbeats 8000000 in
theorem lk_L_672 : cd_L.lookup 672 = some (av_q (.iconst 3)) := by decide +kernel
set_option maxRecDepth 100000 in
set_option maxHeartbeats 8000000 in
theorem lk_L_673 : cd_L.lookup 673 = some (av_q (.iadd)) := by decide +kernel
set_option maxRecDepth 100000 in
set_option maxHeartbeats 8000000 in
theorem lk_L_674 : cd_L.lookup 674 = some (av_q (.iaload)) := by decide +kernel
set_option maxRecDepth 100000 in
set_option maxHeartbeats 8000000 in
theorem lk_L_675 : cd_L.lookup 675 = some (av_qc (.invokevirtual 71) 109 3 0 7) := by decide +kernel
set_option maxRecDepth 100000 in
set_option maxHeartbeats 8000000 in
theorem lk_L_678 : cd_L.lookup 678 = some (av_q (.aload_n 2)) := by decide +kernel
set_option maxRecDepth 100000 in
set_option maxHeartbeats 8000000 in
theorem lk_L_679 : cd_L.lookup 679 = some (av_q (.aload_n 0)) := by decide +kernel
set_option maxRecDepth 100000 in
set_option maxHeartbeats 8000000 in
theorem lk_L_680 : cd_L.lookup 680 = some (av_q (.iload_n 3)) := by decide +kernel
set_option maxRecDepth 100000 in
set_option maxHeartbeats 8000000 in
theorem lk_L_681 : cd_L.lookup 681 = some (av_q (.iconst 1)) := by decide +kernel
set_option maxRecDepth 100000 in
set_option maxHeartbeats 8000000 in
theorem lk_L_682 : cd_L.lookup 682 = some (av_q (.iadd)) := by decide +kernel
set_option maxRecDepth 100000 in
set_option maxHeartbeats 8000000 in
theorem lk_L_683 : cd_L.lookup 683 = some (av_q (.iaload)) := by decide +kernel
set_option maxRecDepth 100000 in
set_option maxHeartbeats 8000000 in
theorem lk_L_684 : cd_L.lookup 684 = some (av_q (.aload_n 0)) := by decide +kernel
set_option maxRecDepth 100000 in
set_option maxHeartbeats 8000000 in
theorem lk_L_685 : cd_L.lookup 685 = some (av_q (.iload_n 3)) := by decide +kernel
set_option maxRecDepth 100000 in
set_option maxHeartbeats 8000000 in
theorem lk_L_686 : cd_L.lookup 686 = some (av_q (.iconst 2)) := by decide +kernel
set_option maxRecDepth 100000 in
set_option maxHeartbeats 8000000 in
theorem lk_L_687 : cd_L.lookup 687 = some (av_q (.iadd)) := by decide +kernel
set_option maxRecDepth 100000 in
set_option maxHeartbeats 8000000 in
theorem lk_L_688 : cd_L.lookup 688 = some (av_q (.iaload)) := by decide +kernel
set_option maxRecDepth 100000 in
set_option maxHeartbeats 8000000 in
theorem lk_L_689 : cd_L.lookup 689 = some (av_q (.aload_n 0)) := by decide +kernel
set_option maxRecDepth 100000 in
set_option maxHeartbeats 8000000 in
theorem lk_L_690 : cd_L.lookup 690 = some (av_q (.iload_n 3)) := by decide +kernel
set_option maxRecDepth 100000 in
set_option maxHeartbeats 8000000 in
theorem lk_L_691 : cd_L.lookup 691 = some (av_q (.iconst 3)) := by decide +kernel
set_option maxRecDepth 100000 in
set_option maxHeartbeats 8000000 in
theorem lk_L_692 : cd_L.lookup 692 = some (av_q (.iadd)) := by decide +kernel
set_option maxRecDepth 100000 in
set_option maxHeartbeats 8000000 in
theorem lk_L_693 : cd_L.lookup 693 = some (av_q (.iaload)) := by decide +kernel
set_option maxRecDepth 100000 in
set_option maxHeartbeats 8000000 in
theorem lk_L_694 : cd_L.lookup 694 = some (av_qc (.invokevirtual 74) 193 3 0 8) := by decide +kernel
set_option maxRecDepth 100000 in
set_option maxHeartbeats 8000000 in
theorem lk_L_697 : cd_L.lookup 697 = some (av_qa (.if_icmp .eq 587) 1284) := by decide +kernel
set_option maxRecDepth 100000 in
set_option maxHeartbeats 8000000 in
theorem lk_L_702 : cd_L.lookup 702 = some (av_q (.aload_n 1)) := by decide +kernel
set_option maxRecDepth 100000 in
set_option maxHeartbeats 8000000 in
theorem lk_L_703 : cd_L.lookup 703 = some (av_q (.aload_n 0)) := by decide +kernel
set_option maxRecDepth 100000 in
set_option maxHeartbeats 8000000 in
theorem lk_L_704 : cd_L.lookup 704 = some (av_q (.iload_n 3)) := by decide +kernel
set_option maxRecDepth 100000 in
set_option maxHeartbeats 8000000 in
theorem lk_L_705 : cd_L.lookup 705 = some (av_q (.iconst 1)) := by decide +kernel
set_option maxRecDepth 100000 in
set_option maxHeartbeats 8000000 in
theorem lk_L_706 : cd_L.lookup 706 = some (av_q (.iadd)) := by decide +kernel
set_option maxRecDepth 100000 in
set_option maxHeartbeats 8000000 in
theorem lk_L_707 : cd_L.lookup 707 = some (av_q (.iaload)) := by decide +kernel
set_option maxRecDepth 100000 in
set_option maxHeartbeats 8000000 in
theorem lk_L_708 : cd_L.lookup 708 = some (av_q (.aload_n 0)) := by decide +kernel
set_option maxRecDepth 100000 in
set_option maxHeartbeats 8000000 in
theorem lk_L_709 : cd_L.lookup 709 = some (av_q (.iload_n 3)) := by decide +kernel
set_option maxRecDepth 100000 in
set_option maxHeartbeats 8000000 in
theorem lk_L_710 : cd_L.lookup 710 = some (av_q (.iconst 2)) := by decide +kernel
set_option maxRecDepth 100000 in
set_option maxHeartbeats 8000000 in
theorem lk_L_711 : cd_L.lookup 711 = some (av_q (.iadd)) := by decide +kernel
set_option maxRecDepth 100000 in
set_option maxHeartbeats 8000000 in
theorem lk_L_712 : cd_L.lookup 712 = some (av_q (.iaload)) := by decide +kernel
set_option maxRecDepth 100000 in
set_option maxHeartbeats 8000000 in
theorem lk_L_713 : cd_L.lookup 713 = some (av_qc (.invokevirtual 75) 110 2 0 7) := by decide +kernel
set_option maxRecDepth 100000 in
set_option maxHeartbeats 8000000 in
theorem lk_L_716 : cd_L.lookup 716 = some (av_q (.aload_n 2)) := by decide +kernel
set_option maxRecDepth 100000 in
set_option maxHeartbeats 8000000 in
theorem lk_L_717 : cd_L.lookup 717 = some (av_q (.aload_n 0)) := by decide +kernel
set_option maxRecDepth 100000 in
set_option maxHeartbeats 8000000 in
theorem lk_L_718 : cd_L.lookup 718 = some (av_q (.iload_n 3)) := by decide +kernel
set_option maxRecDepth 100000 in
set_option maxHeartbeats 8000000 in
theorem lk_L_719 : cd_L.lookup 719 = some (av_q (.iconst 1)) := by decide +kernel
set_option maxRecDepth 100000 in
set_option maxHeartbeats 8000000 in
theorem lk_L_720 : cd_L.lookup 720 = some (av_q (.iadd)) := by decide +kernel
set_option maxRecDepth 100000 in
set_option maxHeartbeats 8000000 in
theorem lk_L_721 : cd_L.lookup 721 = some (av_q (.iaload)) := by decide +kernel
set_option maxRecDepth 100000 in
set_option maxHeartbeats 8000000 in
theorem lk_L_722 : cd_L.lookup 722 = some (av_q (.aload_n 0)) := by decide +kernel
set_option maxRecDepth 100000 in
set_option maxHeartbeats 8000000 in
theorem lk_L_723 : cd_L.lookup 723 = some (av_q (.iload_n 3)) := by decide +kernel
set_option maxRecDepth 100000 in
set_option maxHeartbeats 8000000 in
theorem lk_L_724 : cd_L.lookup 724 = some (av_q (.iconst 2)) := by decide +kernel
set_option maxRecDepth 100000 in
set_option maxHeartbeats 8000000 in
theorem lk_L_725 : cd_L.lookup 725 = some (av_q (.iadd)) := by decide +kernel
set_option maxRecDepth 100000 in
set_option maxHeartbeats 8000000 in
theorem lk_L_726 : cd_L.lookup 726 = some (av_q (.iaload)) := by decide +kernel
set_option maxRecDepth 100000 in
set_option maxHeartbeats 8000000 in
theorem lk_L_727 : cd_L.lookup 727 = some (av_qc (.invokevirtual 78) 197 2 0 8) := by decide +kernel
set_option maxRecDepth 100000 in
set_option maxHeartbeats 8000000 in
theorem lk_L_730 : cd_L.lookup 730 = some (av_qa (.if_icmp .eq 554) 1284) := by decide +kernel
set_option maxRecDepth 100000 in
set_option maxHeartbeats 8000000 in
theorem lk_L_735 : cd_L.lookup 735 = some (av_q (.aload_n 1)) := by decide +kernel
set_option maxRecDepth 100000 in
set_option maxHeartbeats 8000000 in
theorem lk_L_736 : cd_L.lookup 736 = some (av_q (.aload_n 0)) := by decide +kernel
set_option maxRecDepth 100000 in
set_option maxHeartbeats 8000000 in
theorem lk_L_737 : cd_L.lookup 737 = some (av_q (.iload_n 3)) := by decide +kernel
set_option maxRecDepth 100000 in
set_option maxHeartbeats 8000000 in
theorem lk_L_738 : cd_L.lookup 738 = some (av_q (.iconst 1)) := by decide +kernel
set_option maxRecDepth 100000 in
set_option maxHeartbeats 8000000 in
theorem lk_L_739 : cd_L.lookup 739 = some (av_q (.iadd)) := by decide +kernel
set_option maxRecDepth 100000 in
set_option maxHeartbeats 8000000 in
theorem lk_L_740 : cd_L.lookup 740 = some (av_q (.iaload)) := by decide +kernel
set_option maxRecDepth 100000 in
set_option maxHeartbeats 8000000 in
theorem lk_L_741 : cd_L.lookup 741 = some (av_q (.aload_n 0)) := by decide +kernel
set_option maxRecDepth 100000 in
set_option maxHeartbeats 8000000 in
theorem lk_L_742 : cd_L.lookup 742 = some (av_q (.iload_n 3)) := by decide +kernel
set_option maxRecDepth 100000 in
set_option maxHeartbeats 8000000 in
theorem lk_L_743 : cd_L.lookup 743 = some (av_q (.iconst 2)) := by decide +kernel
set_option maxRecDepth 100000 in
set_option maxHeartbeats 8000000 in
theorem lk_L_744 : cd_L.lookup 744 = some (av_q (.iadd)) := by decide +kernel
set_option maxRecDepth 100000 in
set_option maxHeartbeats 8000000 in
theorem lk_L_745 : cd_L.lookup 745 = some (av_q (.iaload)) := by decide +kernel
set_option maxRecDepth 100000 in
set_option maxHeartbeats 8000000 in
theorem lk_L_746 : cd_L.lookup 746 = some (av_q (.aload_n 0)) := by decide +kernel
set_option maxRecDepth 100000 in
set_option maxHeartbeats 8000000 in
theorem lk_L_747 : cd_L.lookup 747 = some (av_q (.iload_n 3)) := by decide +kernel
set_option maxRecDepth 100000 in
set_option maxHeartbeats 8000000 in
theorem lk_L_748 : cd_L.lookup 748 = some (av_q (.iconst 3)) := by decide +kernel
set_option maxRecDepth 100000 in
set_option maxHeartbeats 8000000 in
theorem lk_L_749 : cd_L.lookup 749 = some (av_q (.iadd)) := by decide +kernel
set_option maxRecDepth 100000 in
set_option maxHeartbeats 8000000 in
theorem lk_L_750 : cd_L.lookup 750 = some (av_q (.iaload)) := by decide +kernel
set_option maxRecDepth 100000 in
set_option maxHeartbeats 8000000 in
theorem lk_L_751 : cd_L.lookup 751 = some (av_q (.aload_n 0)) := by decide +kernel
set_option maxRecDepth 100000 in
set_option maxHeartbeats 8000000 in
theorem lk_L_752 : cd_L.lookup 752 = some (av_q (.iload_n 3)) := by decide +kernel
set_option maxRecDepth 100000 in
set_option maxHeartbeats 8000000 in
theorem lk_L_753 : cd_L.lookup 753 = some (av_q (.iconst 4)) := by decide +kernel
set_option maxRecDepth 100000 in
set_option maxHeartbeats 8000000 in
theorem lk_L_754 : cd_L.lookup 754 = some (av_q (.iadd)) := by decide +kernel
set_option maxRecDepth 100000 in
set_option maxHeartbeats 8000000 in
theorem lk_L_755 : cd_L.lookup 755 = some (av_q (.iaload)) := by decide +kernel
set_option maxRecDepth 100000 in
set_option maxHeartbeats 8000000 in
theorem lk_L_756 : cd_L.lookup 756 = some (av_qc (.invokevirtual 79) 111 4 0 7) := by decide +kernel
set_option maxRecDepth 100000 in
set_option maxHeartbeats 8000000 in
theorem lk_L_759 : cd_L.lookup 759 = some (av_q (.aload_n 2)) := by decide +kernel
set_option maxRecDepth 100000 in
set_option maxHeartbeats 8000000 in
theorem lk_L_760 : cd_L.lookup 760 = some (av_q (.aload_n 0)) := by decide +kernel
set_option maxRecDepth 100000 in
set_option maxHeartbeats 8000000 in
theorem lk_L_761 : cd_L.lookup 761 = some (av_q (.iload_n 3)) := by decide +kernel
set_option maxRecDepth 100000 in
set_option maxHeartbeats 8000000 in
theorem lk_L_762 : cd_L.lookup 762 = some (av_q (.iconst 1)) := by decide +kernel
set_option maxRecDepth 100000 in
set_option maxHeartbeats 8000000 in
theorem lk_L_763 : cd_L.lookup 763 = some (av_q (.iadd)) := by decide +kernel
set_option maxRecDepth 100000 in
set_option maxHeartbeats 8000000 in
theorem lk_L_764 : cd_L.lookup 764 = some (av_q (.iaload)) := by decide +kernel
set_option maxRecDepth 100000 in
set_option maxHeartbeats 8000000 in
theorem lk_L_765 : cd_L.lookup 765 = some (av_q (.aload_n 0)) := by decide +kernel
set_option maxRecDepth 100000 in
set_option maxHeartbeats 8000000 in
theorem lk_L_766 : cd_L.lookup 766 = some (av_q (.iload_n 3)) := by decide +kernel
set_option maxRecDepth 100000 in
set_option maxHeartbeats 8000000 in
theorem lk_L_767 : cd_L.lookup 767 = some (av_q (.iconst 2)) := by decide +kernel
set_option maxRecDepth 100000 in
set_option maxHeartbeats 8000000 in
theorem lk_L_768 : cd_L.lookup 768 = some (av_q (.iadd)) := by decide +kernel
set_option maxRecDepth 100000 in
set_option maxHeartbeats 8000000 in
theorem lk_L_769 : cd_L.lookup 769 = some (av_q (.iaload)) := by decide +kernel
set_option maxRecDepth 100000 in
set_option maxHeartbeats 8000000 in
theorem lk_L_770 : cd_L.lookup 770 = some (av_q (.aload_n 0)) := by decide +kernel
set_option maxRecDepth 100000 in
set_option maxHeartbeats 8000000 in
theorem lk_L_771 : cd_L.lookup 771 = some (av_q (.iload_n 3)) := by decide +kernel
set_option maxRecDepth 100000 in
set_option maxHeartbeats 8000000 in
theorem lk_L_772 : cd_L.lookup 772 = some (av_q (.iconst 3)) := by decide +kernel
set_option maxRecDepth 100000 in
set_option maxHeartbeats 8000000 in
theorem lk_L_773 : cd_L.lookup 773 = some (av_q (.iadd)) := by decide +kernel
set_option maxRecDepth 100000 in
set_option maxHeartbeats 8000000 in
theorem lk_L_774 : cd_L.lookup 774 = some (av_q (.iaload)) := by decide +kernel
set_option maxRecDepth 100000 in
set_option maxHeartbeats 8000000 in
theorem lk_L_775 : cd_L.lookup 775 = some (av_q (.aload_n 0)) := by decide +kernel
set_option maxRecDepth 100000 in
set_option maxHeartbeats 8000000 in
theorem lk_L_776 : cd_L.lookup 776 = some (av_q (.iload_n 3)) := by decide +kernel
set_option maxRecDepth 100000 in
set_option maxHeartbeats 8000000 in
theorem lk_L_777 : cd_L.lookup 777 = some (av_q (.iconst 4)) := by decide +kernel
set_option maxRecDepth 100000 in
set_option maxHeartbeats 8000000 in
theorem lk_L_778 : cd_L.lookup 778 = some (av_q (.iadd)) := by decide +kernel
set_option maxRecDepth 100000 in
set_option maxHeartbeats 8000000 in
theorem lk_L_779 : cd_L.lookup 779 = some (av_q (.iaload)) := by decide +kernel
set_option maxRecDepth 100000 in
set_option maxHeartbeats 8000000 in
theorem lk_L_780 : cd_L.lookup 780 = some (av_qc (.invokevirtual 82) 198 4 0 8) := by decide +kernel
set_option maxRecDepth 100000 in
set_option maxHeartbeats 8000000 in
theorem lk_L_783 : cd_L.lookup 783 = some (av_qa (.if_icmp .eq 501) 1284) := by decide +kernel
set_option maxRecDepth 100000 in
set_option maxHeartbeats 8000000 in
theorem lk_L_788 : cd_L.lookup 788 = some (av_q (.aload_n 1)) := by decide +kernel
set_option maxRecDepth 100000 in
set_option maxHeartbeats 8000000 in
theorem lk_L_789 : cd_L.lookup 789 = some (av_q (.aload_n 0)) := by decide +kernel
set_option maxRecDepth 100000 in
set_option maxHeartbeats 8000000 in
theorem lk_L_790 : cd_L.lookup 790 = some (av_q (.iload_n 3)) := by decide +kernel
set_option maxRecDepth 100000 in
set_option maxHeartbeats 8000000 in
theorem lk_L_791 : cd_L.lookup 791 = some (av_q (.iconst 1)) := by decide +kernel
set_option maxRecDepth 100000 in
set_option maxHeartbeats 8000000 in
theorem lk_L_792 : cd_L.lookup 792 = some (av_q (.iadd)) := by decide +kernel
set_option maxRecDepth 100000 in
set_option maxHeartbeats 8000000 in
theorem lk_L_793 : cd_L.lookup 793 = some (av_q (.iaload)) := by decide +kernel
set_option maxRecDepth 100000 in
set_option maxHeartbeats 8000000 in
theorem lk_L_794 : cd_L.lookup 794 = some (av_q (.aload_n 0)) := by decide +kernel
set_option maxRecDepth 100000 in
set_option maxHeartbeats 8000000 in
theorem lk_L_795 : cd_L.lookup 795 = some (av_q (.iload_n 3)) := by decide +kernel
set_option maxRecDepth 100000 in
set_option maxHeartbeats 8000000 in
theorem lk_L_796 : cd_L.lookup 796 = some (av_q (.iconst 2)) := by decide +kernel
set_option maxRecDepth 100000 in
set_option maxHeartbeats 8000000 in
theorem lk_L_797 : cd_L.lookup 797 = some (av_q (.iadd)) := by decide +kernel
set_option maxRecDepth 100000 in
set_option maxHeartbeats 8000000 in
theorem lk_L_798 : cd_L.lookup 798 = some (av_q (.iaload)) := by decide +kernel
set_option maxRecDepth 100000 in
set_option maxHeartbeats 8000000 in
theorem lk_L_799 : cd_L.lookup 799 = some (av_q (.aload_n 0)) := by decide +kernel
set_option maxRecDepth 100000 in
set_option maxHeartbeats 8000000 in
theorem lk_L_800 : cd_L.lookup 800 = some (av_q (.iload_n 3)) := by decide +kernel
set_option maxRecDepth 100000 in
set_option maxHeartbeats 8000000 in
theorem lk_L_801 : cd_L.lookup 801 = some (av_q (.iconst 3)) := by decide +kernel
set_option maxRecDepth 100000 in
set_option maxHeartbeats 8000000 in
theorem lk_L_802 : cd_L.lookup 802 = some (av_q (.iadd)) := by decide +kernel
set_option maxRecDepth 100000 in
set_option maxHeartbeats 8000000 in
theorem lk_L_803 : cd_L.lookup 803 = some (av_q (.iaload)) := by decide +kernel
set_option maxRecDepth 100000 in
set_option maxHeartbeats 8000000 in
theorem lk_L_804 : cd_L.lookup 804 = some (av_q (.aload_n 0)) := by decide +kernel
set_option maxRecDepth 100000 in
set_option maxHeartbeats 8000000 in
theorem lk_L_805 : cd_L.lookup 805 = some (av_q (.iload_n 3)) := by decide +kernel
set_option maxRecDepth 100000 in
set_option maxHeartbeats 8000000 in
theorem lk_L_806 : cd_L.lookup 806 = some (av_q (.iconst 4)) := by decide +kernel
set_option maxRecDepth 100000 in
set_option maxHeartbeats 8000000 in
theorem lk_L_807 : cd_L.lookup 807 = some (av_q (.iadd)) := by decide +kernel
set_option maxRecDepth 100000 in
set_option maxHeartbeats 8000000 in
theorem lk_L_808 : cd_L.lookup 808 = some (av_q (.iaload)) := by decide +kernel
set_option maxRecDepth 100000 in
set_option maxHeartbeats 8000000 in
theorem lk_L_809 : cd_L.lookup 809 = some (av_q (.aload_n 0)) := by decide +kernel
set_option maxRecDepth 100000 in
set_option maxHeartbeats 8000000 in
theorem lk_L_810 : cd_L.lookup 810 = some (av_q (.iload_n 3)) := by decide +kernel
set_option maxRecDepth 100000 in
set_option maxHeartbeats 8000000 in
theorem lk_L_811 : cd_L.lookup 811 = some (av_q (.iconst 5)) := by decide +kernel
set_option maxRecDepth 100000 in
set_option maxHeartbeats 8000000 in
theorem lk_L_812 : cd_L.lookup 812 = some (av_q (.iadd)) := by decide +kernel
set_option maxRecDepth 100000 in
set_option maxHeartbeats 8000000 in
theorem lk_L_813 : cd_L.lookup 813 = some (av_q (.iaload)) := by decide +kernel
set_option maxRecDepth 100000 in
set_option maxHeartbeats 8000000 in
theorem lk_L_814 : cd_L.lookup 814 = some (av_qc (.invokevirtual 83) 112 5 0 7) := by decide +kernel
set_option maxRecDepth 100000 in
set_option maxHeartbeats 8000000 in
theorem lk_L_817 : cd_L.lookup 817 = some (av_q (.aload_n 2)) := by decide +kernel
set_option maxRecDepth 100000 in
set_option maxHeartbeats 8000000 in
theorem lk_L_818 : cd_L.lookup 818 = some (av_q (.aload_n 0)) := by decide +kernel
set_option maxRecDepth 100000 in
set_option maxHeartbeats 8000000 in
theorem lk_L_819 : cd_L.lookup 819 = some (av_q (.iload_n 3)) := by decide +kernel
set_option maxRecDepth 100000 in
set_option maxHeartbeats 8000000 in
theorem lk_L_820 : cd_L.lookup 820 = some (av_q (.iconst 1)) := by decide +kernel
set_option maxRecDepth 100000 in
set_option maxHeartbeats 8000000 in
theorem lk_L_821 : cd_L.lookup 821 = some (av_q (.iadd)) := by decide +kernel
set_option maxRecDepth 100000 in
set_option maxHeartbeats 8000000 in
theorem lk_L_822 : cd_L.lookup 822 = some (av_q (.iaload)) := by decide +kernel
set_option maxRecDepth 100000 in
set_option maxHeartbeats 8000000 in
theorem lk_L_823 : cd_L.lookup 823 = some (av_q (.aload_n 0)) := by decide +kernel
set_option maxRecDepth 100000 in
set_option maxHeartbeats 8000000 in
theorem lk_L_824 : cd_L.lookup 824 = some (av_q (.iload_n 3)) := by decide +kernel
set_option maxRecDepth 100000 in
set_option maxHeartbeats 8000000 in
theorem lk_L_825 : cd_L.lookup 825 = some (av_q (.iconst 2)) := by decide +kernel
set_option maxRecDepth 100000 in
set_option maxHeartbeats 8000000 in
theorem lk_L_826 : cd_L.lookup 826 = some (av_q (.iadd)) := by decide +kernel
set_option maxRecDepth 100000 in
set_option maxHeartbeats 8000000 in
theorem lk_L_827 : cd_L.lookup 827 = some (av_q (.iaload)) := by decide +kernel
set_option maxRecDepth 100000 in
set_option maxHeartbeats 8000000 in
theorem lk_L_828 : cd_L.lookup 828 = some (av_q (.aload_n 0)) := by decide +kernel
set_option maxRecDepth 100000 in
set_option maxHeartbeats 8000000 in
theorem lk_L_829 : cd_L.lookup 829 = some (av_q (.iload_n 3)) := by decide +kernel
set_option maxRecDepth 100000 in
set_option maxHeartbeats 8000000 in
theorem lk_L_830 : cd_L.lookup 830 = some (av_q (.iconst 3)) := by decide +kernel
set_option maxRecDepth 100000 in
set_option maxHeartbeats 8000000 in
theorem lk_L_831 : cd_L.lookup 831 = some (av_q (.iadd)) := by decide +kernel
set_option maxRecDepth 100000 in
set_option maxHeartbeats 8000000 in
theorem lk_L_832 : cd_L.lookup 832 = some (av_q (.iaload)) := by decide +kernel
set_option maxRecDepth 100000 in
set_option maxHeartbeats 8000000 in
theorem lk_L_833 : cd_L.lookup 833 = some (av_q (.aload_n 0)) := by decide +kernel
set_option maxRecDepth 100000 in
set_option maxHeartbeats 8000000 in
theorem lk_L_834 : cd_L.lookup 834 = some (av_q (.iload_n 3)) := by decide +kernel
set_option maxRecDepth 100000 in
set_option maxHeartbeats 8000000 in
theorem lk_L_835 : cd_L.lookup 835 = some (av_q (.iconst 4)) := by decide +kernel
set_option maxRecDepth 100000 in
set_option maxHeartbeats 8000000 in
theorem lk_L_836 : cd_L.lookup 836 = some (av_q (.iadd)) := by decide +kernel
set_option maxRecDepth 100000 in
set_option maxHeartbeats 8000000 in
theorem lk_L_837 : cd_L.lookup 837 = some (av_q (.iaload)) := by decide +kernel
set_option maxRecDepth 100000 in
set_option maxHeartbeats 8000000 in
theorem lk_L_838 : cd_L.lookup 838 = some (av_q (.aload_n 0)) := by decide +kernel
set_option maxRecDepth 100000 in
set_option maxHeartbeats 8000000 in
theorem lk_L_839 : cd_L.lookup 839 = some (av_q (.iload_n 3)) := by decide +kernel
set_option maxRecDepth 100000 in
set_option maxHeartbeats 8000000 in
theorem lk_L_840 : cd_L.lookup 840 = some (av_q (.iconst 5)) := by decide +kernel
set_option maxRecDepth 100000 in
set_option maxHeartbeats 8000000 in
theorem lk_L_841 : cd_L.lookup 841 = some (av_q (.iadd)) := by decide +kernel
set_option maxRecDepth 100000 in
set_option maxHeartbeats 8000000 in
theorem lk_L_842 : cd_L.lookup 842 = some (av_q (.iaload)) := by decide +kernel
set_option maxRecDepth 100000 in
set_option maxHeartbeats 8000000 in
theorem lk_L_843 : cd_L.lookup 843 = some (av_qc (.invokevirtual 86) 199 5 0 8) := by decide +kernel
set_option maxRecDepth 100000 in
set_option maxHeartbeats 8000000 in
theorem lk_L_846 : cd_L.lookup 846 = some (av_qa (.if_icmp .eq 438) 1284) := by decide +kernel
set_option maxRecDepth 100000 in
set_option maxHeartbeats 8000000 in
theorem lk_L_851 : cd_L.lookup 851 = some (av_q (.aload_n 1)) := by decide +kernel
set_option maxRecDepth 100000 in
set_option maxHeartbeats 8000000 in
theorem lk_L_852 : cd_L.lookup 852 = some (av_q (.aload_n 0)) := by decide +kernel
set_option maxRecDepth 100000 in
set_option maxHeartbeats 8000000 in
theorem lk_L_853 : cd_L.lookup 853 = some (av_q (.iload_n 3)) := by decide +kernel
set_option maxRecDepth 100000 in
set_option maxHeartbeats 8000000 in
theorem lk_L_854 : cd_L.lookup 854 = some (av_q (.iconst 1)) := by decide +kernel
set_option maxRecDepth 100000 in
set_option maxHeartbeats 8000000 in
theorem lk_L_855 : cd_L.lookup 855 = some (av_q (.iadd)) := by decide +kernel
set_option maxRecDepth 100000 in
set_option maxHeartbeats 8000000 in
theorem lk_L_856 : cd_L.lookup 856 = some (av_q (.iaload)) := by decide +kernel
set_option maxRecDepth 100000 in
set_option maxHeartbeats 8000000 in
theorem lk_L_857 : cd_L.lookup 857 = some (av_q (.aload_n 0)) := by decide +kernel
set_option maxRecDepth 100000 in
set_option maxHeartbeats 8000000 in
theorem lk_L_858 : cd_L.lookup 858 = some (av_q (.iload_n 3)) := by decide +kernel
set_option maxRecDepth 100000 in
set_option maxHeartbeats 8000000 in
theorem lk_L_859 : cd_L.lookup 859 = some (av_q (.iconst 2)) := by decide +kernel
set_option maxRecDepth 100000 in
set_option maxHeartbeats 8000000 in
theorem lk_L_860 : cd_L.lookup 860 = some (av_q (.iadd)) := by decide +kernel
set_option maxRecDepth 100000 in
set_option maxHeartbeats 8000000 in
theorem lk_L_861 : cd_L.lookup 861 = some (av_q (.iaload)) := by decide +kernel
set_option maxRecDepth 100000 in
set_option maxHeartbeats 8000000 in
theorem lk_L_862 : cd_L.lookup 862 = some (av_q (.aload_n 0)) := by decide +kernel
set_option maxRecDepth 100000 in
set_option maxHeartbeats 8000000 in
theorem lk_L_863 : cd_L.lookup 863 = some (av_q (.iload_n 3)) := by decide +kernel
set_option maxRecDepth 100000 in
set_option maxHeartbeats 8000000 in
theorem lk_L_864 : cd_L.lookup 864 = some (av_q (.iconst 3)) := by decide +kernel
set_option maxRecDepth 100000 in
set_option maxHeartbeats 8000000 in
theorem lk_L_865 : cd_L.lookup 865 = some (av_q (.iadd)) := by decide +kernel
set_option maxRecDepth 100000 in
set_option maxHeartbeats 8000000 in
theorem lk_L_866 : cd_L.lookup 866 = some (av_q (.iaload)) := by decide +kernel
set_option maxRecDepth 100000 in
set_option maxHeartbeats 8000000 in
theorem lk_L_867 : cd_L.lookup 867 = some (av_q (.aload_n 0)) := by decide +kernel
set_option maxRecDepth 100000 in
set_option maxHeartbeats 8000000 in
theorem lk_L_868 : cd_L.lookup 868 = some (av_q (.iload_n 3)) := by decide +kernel
set_option maxRecDepth 100000 in
set_option maxHeartbeats 8000000 in
theorem lk_L_869 : cd_L.lookup 869 = some (av_q (.iconst 4)) := by decide +kernel
set_option maxRecDepth 100000 in
set_option maxHeartbeats 8000000 in
theorem lk_L_870 : cd_L.lookup 870 = some (av_q (.iadd)) := by decide +kernel
set_option maxRecDepth 100000 in
set_option maxHeartbeats 8000000 in
theorem lk_L_871 : cd_L.lookup 871 = some (av_q (.iaload)) := by decide +kernel
set_option maxRecDepth 100000 in
set_option maxHeartbeats 8000000 in
theorem lk_L_872 : cd_L.lookup 872 = some (av_qc (.invokevirtual 87) 113 4 0 7) := by decide +kernel
set_option maxRecDepth 100000 in
set_option maxHeartbeats 8000000 in
theorem lk_L_875 : cd_L.lookup 875 = some (av_q (.aload_n 2)) := by decide +kernel
set_option maxRecDepth 100000 in
set_option maxHeartbeats 8000000 in
theorem lk_L_876 : cd_L.lookup 876 = some (av_q (.aload_n 0)) := by decide +kernel
set_option maxRecDepth 100000 in
set_option maxHeartbeats 8000000 in
theorem lk_L_877 : cd_L.lookup 877 = some (av_q (.iload_n 3)) := by decide +kernel
set_option maxRecDepth 100000 in
set_option maxHeartbeats 8000000 in
theorem lk_L_878 : cd_L.lookup 878 = some (av_q (.iconst 1)) := by decide +kernel
set_option maxRecDepth 100000 in
set_option maxHeartbeats 8000000 in
theorem lk_L_879 : cd_L.lookup 879 = some (av_q (.iadd)) := by decide +kernel
set_option maxRecDepth 100000 in
set_option maxHeartbeats 8000000 in
theorem lk_L_880 : cd_L.lookup 880 = some (av_q (.iaload)) := by decide +kernel
set_option maxRecDepth 100000 in
set_option maxHeartbeats 8000000 in
theorem lk_L_881 : cd_L.lookup 881 = some (av_q (.aload_n 0)) := by decide +kernel
set_option maxRecDepth 100000 in
set_option maxHeartbeats 8000000 in
theorem lk_L_882 : cd_L.lookup 882 = some (av_q (.iload_n 3)) := by decide +kernel
set_option maxRecDepth 100000 in
set_option maxHeartbeats 8000000 in
theorem lk_L_883 : cd_L.lookup 883 = some (av_q (.iconst 2)) := by decide +kernel
set_option maxRecDepth 100000 in
set_option maxHeartbeats 8000000 in
theorem lk_L_884 : cd_L.lookup 884 = some (av_q (.iadd)) := by decide +kernel
set_option maxRecDepth 100000 in
set_option maxHeartbeats 8000000 in
theorem lk_L_885 : cd_L.lookup 885 = some (av_q (.iaload)) := by decide +kernel
set_option maxRecDepth 100000 in
set_option maxHeartbeats 8000000 in
theorem lk_L_886 : cd_L.lookup 886 = some (av_q (.aload_n 0)) := by decide +kernel
set_option maxRecDepth 100000 in
set_option maxHeartbeats 8000000 in
theorem lk_L_887 : cd_L.lookup 887 = some (av_q (.iload_n 3)) := by decide +kernel
set_option maxRecDepth 100000 in
set_option maxHeartbeats 8000000 in
theorem lk_L_888 : cd_L.lookup 888 = some (av_q (.iconst 3)) := by decide +kernel
set_option maxRecDepth 100000 in
set_option maxHeartbeats 8000000 in
theorem lk_L_889 : cd_L.lookup 889 = some (av_q (.iadd)) := by decide +kernel
set_option maxRecDepth 100000 in
set_option maxHeartbeats 8000000 in
theorem lk_L_890 : cd_L.lookup 890 = some (av_q (.iaload)) := by decide +kernel
set_option maxRecDepth 100000 in
set_option maxHeartbeats 8000000 in
theorem lk_L_891 : cd_L.lookup 891 = some (av_q (.aload_n 0)) := by decide +kernel
set_option maxRecDepth 100000 in
set_option maxHeartbeats 8000000 in
theorem lk_L_892 : cd_L.lookup 892 = some (av_q (.iload_n 3)) := by decide +kernel
set_option maxRecDepth 100000 in
set_option maxHeartbeats 8000000 in
theorem lk_L_893 : cd_L.lookup 893 = some (av_q (.iconst 4)) := by decide +kernel
set_option maxRecDepth 100000 in
set_option maxHeartbeats 8000000 in
theorem lk_L_894 : cd_L.lookup 894 = some (av_q (.iadd)) := by decide +kernel
set_option maxRecDepth 100000 in
set_option maxHeartbeats 8000000 in
theorem lk_L_895 : cd_L.lookup 895 = some (av_q (.iaload)) := by decide +kernel
set_option maxRecDepth 100000 in
set_option maxHeartbeats 8000000 in
theorem lk_L_896 : cd_L.lookup 896 = some (av_qc (.invokevirtual 90) 201 4 0 8) := by decide +kernel
set_option maxRecDepth 100000 in
set_option maxHeartbeats 8000000 in
theorem lk_L_899 : cd_L.lookup 899 = some (av_qa (.if_icmp .eq 385) 1284) := by decide +kernel
set_option maxRecDepth 100000 in
set_option maxHeartbeats 8000000 in
theorem lk_L_904 : cd_L.lookup 904 = some (av_q (.aload_n 1)) := by decide +kernel
set_option maxRecDepth 100000 in
set_option maxHeartbeats 8000000 in
theorem lk_L_905 : cd_L.lookup 905 = some (av_q (.aload_n 0)) := by decide +kernel
set_option maxRecDepth 100000 in
set_option maxHeartbeats 8000000 in
theorem lk_L_906 : cd_L.lookup 906 = some (av_q (.iload_n 3)) := by decide +kernel
set_option maxRecDepth 100000 in
set_option maxHeartbeats 8000000 in
theorem lk_L_907 : cd_L.lookup 907 = some (av_q (.iconst 1)) := by decide +kernel
set_option maxRecDepth 100000 in
set_option maxHeartbeats 8000000 in
theorem lk_L_908 : cd_L.lookup 908 = some (av_q (.iadd)) := by decide +kernel
set_option maxRecDepth 100000 in
set_option maxHeartbeats 8000000 in
theorem lk_L_909 : cd_L.lookup 909 = some (av_q (.iaload)) := by decide +kernel
set_option maxRecDepth 100000 in
set_option maxHeartbeats 8000000 in
theorem lk_L_910 : cd_L.lookup 910 = some (av_q (.aload_n 0)) := by decide +kernel
set_option maxRecDepth 100000 in
set_option maxHeartbeats 8000000 in
theorem lk_L_911 : cd_L.lookup 911 = some (av_q (.iload_n 3)) := by decide +kernel
set_option maxRecDepth 100000 in
set_option maxHeartbeats 8000000 in
theorem lk_L_912 : cd_L.lookup 912 = some (av_q (.iconst 2)) := by decide +kernel
set_option maxRecDepth 100000 in
set_option maxHeartbeats 8000000 in
theorem lk_L_913 : cd_L.lookup 913 = some (av_q (.iadd)) := by decide +kernel
set_option maxRecDepth 100000 in
set_option maxHeartbeats 8000000 in
theorem lk_L_914 : cd_L.lookup 914 = some (av_q (.iaload)) := by decide +kernel
set_option maxRecDepth 100000 in
set_option maxHeartbeats 8000000 in
theorem lk_L_915 : cd_L.lookup 915 = some (av_qc (.invokevirtual 91) 114 2 0 7) := by decide +kernel
set_option maxRecDepth 100000 in
set_option maxHeartbeats 8000000 in
theorem lk_L_918 : cd_L.lookup 918 = some (av_q (.aload_n 2)) := by decide +kernel
set_option maxRecDepth 100000 in
set_option maxHeartbeats 8000000 in
theorem lk_L_919 : cd_L.lookup 919 = some (av_q (.aload_n 0)) := by decide +kernel
set_option maxRecDepth 100000 in
set_option maxHeartbeats 8000000 in
theorem lk_L_920 : cd_L.lookup 920 = some (av_q (.iload_n 3)) := by decide +kernel
set_option maxRecDepth 100000 in
set_option maxHeartbeats 8000000 in
theorem lk_L_921 : cd_L.lookup 921 = some (av_q (.iconst 1)) := by decide +kernel
set_option maxRecDepth 100000 in
set_option maxHeartbeats 8000000 in
theorem lk_L_922 : cd_L.lookup 922 = some (av_q (.iadd)) := by decide +kernel
set_option maxRecDepth 100000 in
set_option maxHeartbeats 8000000 in
theorem lk_L_923 : cd_L.lookup 923 = some (av_q (.iaload)) := by decide +kernel
set_option maxRecDepth 100000 in
set_option maxHeartbeats 8000000 in
theorem lk_L_924 : cd_L.lookup 924 = some (av_q (.aload_n 0)) := by decide +kernel
set_option maxRecDepth 100000 in
set_option maxHeartbeats 8000000 in
theorem lk_L_925 : cd_L.lookup 925 = some (av_q (.iload_n 3)) := by decide +kernel
set_option maxRecDepth 100000 in
set_option maxHeartbeats 8000000 in
theorem lk_L_926 : cd_L.lookup 926 = some (av_q (.iconst 2)) := by decide +kernel
set_option maxRecDepth 100000 in
set_option maxHeartbeats 8000000 in
theorem lk_L_927 : cd_L.lookup 927 = some (av_q (.iadd)) := by decide +kernel
set_option maxRecDepth 100000 in
set_option maxHeartbeats 8000000 in
theorem lk_L_928 : cd_L.lookup 928 = some (av_q (.iaload)) := by decide +kernel
set_option maxRecDepth 100000 in
set_option maxHeartbeats 8000000 in
theorem lk_L_929 : cd_L.lookup 929 = some (av_qc (.invokevirtual 94) 202 2 0 8) := by decide +kernel
set_option maxRecDepth 100000 in
set_option maxHeartbeats 8000000 in
theorem lk_L_932 : cd_L.lookup 932 = some (av_qa (.if_icmp .eq 352) 1284) := by decide +kernel
set_option maxRecDepth 100000 in
set_option maxHeartbeats 8000000 in
theorem lk_L_937 : cd_L.lookup 937 = some (av_q (.aload_n 1)) := by decide +kernel
set_option maxRecDepth 100000 in
set_option maxHeartbeats 8000000 in
theorem lk_L_938 : cd_L.lookup 938 = some (av_q (.aload_n 0)) := by decide +kernel
set_option maxRecDepth 100000 in
set_option maxHeartbeats 8000000 in
theorem lk_L_939 : cd_L.lookup 939 = some (av_q (.iload_n 3)) := by decide +kernel
set_option maxRecDepth 100000 in
set_option maxHeartbeats 8000000 in
theorem lk_L_940 : cd_L.lookup 940 = some (av_q (.iconst 1)) := by decide +kernel
set_option maxRecDepth 100000 in
set_option maxHeartbeats 8000000 in
theorem lk_L_941 : cd_L.lookup 941 = some (av_q (.iadd)) := by decide +kernel
set_option maxRecDepth 100000 in
set_option maxHeartbeats 8000000 in
theorem lk_L_942 : cd_L.lookup 942 = some (av_q (.iaload)) := by decide +kernel
set_option maxRecDepth 100000 in
set_option maxHeartbeats 8000000 in
theorem lk_L_943 : cd_L.lookup 943 = some (av_qc (.invokevirtual 95) 115 1 0 7) := by decide +kernel
set_option maxRecDepth 100000 in
set_option maxHeartbeats 8000000 in
theorem lk_L_946 : cd_L.lookup 946 = some (av_q (.aload_n 2)) := by decide +kernel
set_option maxRecDepth 100000 in
set_option maxHeartbeats 8000000 in
theorem lk_L_947 : cd_L.lookup 947 = some (av_q (.aload_n 0)) := by decide +kernel
set_option maxRecDepth 100000 in
set_option maxHeartbeats 8000000 in
theorem lk_L_948 : cd_L.lookup 948 = some (av_q (.iload_n 3)) := by decide +kernel
set_option maxRecDepth 100000 in
set_option maxHeartbeats 8000000 in
theorem lk_L_949 : cd_L.lookup 949 = some (av_q (.iconst 1)) := by decide +kernel
set_option maxRecDepth 100000 in
set_option maxHeartbeats 8000000 in
theorem lk_L_950 : cd_L.lookup 950 = some (av_q (.iadd)) := by decide +kernel
set_option maxRecDepth 100000 in
set_option maxHeartbeats 8000000 in
theorem lk_L_951 : cd_L.lookup 951 = some (av_q (.iaload)) := by decide +kernel
set_option maxRecDepth 100000 in
set_option maxHeartbeats 8000000 in
theorem lk_L_952 : cd_L.lookup 952 = some (av_qc (.invokevirtual 98) 204 1 0 8) := by decide +kernel
set_option maxRecDepth 100000 in
set_option maxHeartbeats 8000000 in
theorem lk_L_955 : cd_L.lookup 955 = some (av_qa (.if_icmp .eq 329) 1284) := by decide +kernel
set_option maxRecDepth 100000 in
set_option maxHeartbeats 8000000 in
theorem lk_L_960 : cd_L.lookup 960 = some (av_q (.aload_n 1)) := by decide +kernel
set_option maxRecDepth 100000 in
set_option maxHeartbeats 8000000 in
theorem lk_L_961 : cd_L.lookup 961 = some (av_q (.aload_n 0)) := by decide +kernel
set_option maxRecDepth 100000 in
set_option maxHeartbeats 8000000 in
theorem lk_L_962 : cd_L.lookup 962 = some (av_q (.iload_n 3)) := by decide +kernel
set_option maxRecDepth 100000 in
set_option maxHeartbeats 8000000 in
theorem lk_L_963 : cd_L.lookup 963 = some (av_q (.iconst 1)) := by decide +kernel
set_option maxRecDepth 100000 in
set_option maxHeartbeats 8000000 in
theorem lk_L_964 : cd_L.lookup 964 = some (av_q (.iadd)) := by decide +kernel
set_option maxRecDepth 100000 in
set_option maxHeartbeats 8000000 in
theorem lk_L_965 : cd_L.lookup 965 = some (av_q (.iaload)) := by decide +kernel
set_option maxRecDepth 100000 in
set_option maxHeartbeats 8000000 in
theorem lk_L_966 : cd_L.lookup 966 = some (av_q (.aload_n 0)) := by decide +kernel
set_option maxRecDepth 100000 in
set_option maxHeartbeats 8000000 in
theorem lk_L_967 : cd_L.lookup 967 = some (av_q (.iload_n 3)) := by decide +kernel
set_option maxRecDepth 100000 in
set_option maxHeartbeats 8000000 in
theorem lk_L_968 : cd_L.lookup 968 = some (av_q (.iconst 2)) := by decide +kernel
set_option maxRecDepth 100000 in
set_option maxHeartbeats 8000000 in
theorem lk_L_969 : cd_L.lookup 969 = some (av_q (.iadd)) := by decide +kernel
set_option maxRecDepth 100000 in
set_option maxHeartbeats 8000000 in
theorem lk_L_970 : cd_L.lookup 970 = some (av_q (.iaload)) := by decide +kernel
set_option maxRecDepth 100000 in
set_option maxHeartbeats 8000000 in
theorem lk_L_971 : cd_L.lookup 971 = some (av_q (.aload_n 0)) := by decide +kernel
set_option maxRecDepth 100000 in
set_option maxHeartbeats 8000000 in
theorem lk_L_972 : cd_L.lookup 972 = some (av_q (.iload_n 3)) := by decide +kernel
set_option maxRecDepth 100000 in
set_option maxHeartbeats 8000000 in
theorem lk_L_973 : cd_L.lookup 973 = some (av_q (.iconst 3)) := by decide +kernel
set_option maxRecDepth 100000 in
set_option maxHeartbeats 8000000 in
theorem lk_L_974 : cd_L.lookup 974 = some (av_q (.iadd)) := by decide +kernel
set_option maxRecDepth 100000 in
set_option maxHeartbeats 8000000 in
theorem lk_L_975 : cd_L.lookup 975 = some (av_q (.iaload)) := by decide +kernel
set_option maxRecDepth 100000 in
set_option maxHeartbeats 8000000 in
theorem lk_L_976 : cd_L.lookup 976 = some (av_q (.aload_n 0)) := by decide +kernel
set_option maxRecDepth 100000 in
set_option maxHeartbeats 8000000 in
theorem lk_L_977 : cd_L.lookup 977 = some (av_q (.iload_n 3)) := by decide +kernel
set_option maxRecDepth 100000 in
set_option maxHeartbeats 8000000 in
theorem lk_L_978 : cd_L.lookup 978 = some (av_q (.iconst 4)) := by decide +kernel
set_option maxRecDepth 100000 in
set_option maxHeartbeats 8000000 in
theorem lk_L_979 : cd_L.lookup 979 = some (av_q (.iadd)) := by decide +kernel
set_option maxRecDepth 100000 in
set_option maxHeartbeats 8000000 in
theorem lk_L_980 : cd_L.lookup 980 = some (av_q (.iaload)) := by decide +kernel
set_option maxRecDepth 100000 in
set_option maxHeartbeats 8000000 in
theorem lk_L_981 : cd_L.lookup 981 = some (av_qc (.invokevirtual 99) 116 4 0 7) := by decide +kernel
set_option maxRecDepth 100000 in
set_option maxHeartbeats 8000000 in
theorem lk_L_984 : cd_L.lookup 984 = some (av_q (.aload_n 2)) := by decide +kernel
set_option maxRecDepth 100000 in
set_option maxHeartbeats 8000000 in
theorem lk_L_985 : cd_L.lookup 985 = some (av_q (.aload_n 0)) := by decide +kernel
set_option maxRecDepth 100000 in
set_option maxHeartbeats 8000000 in
theorem lk_L_986 : cd_L.lookup 986 = some (av_q (.iload_n 3)) := by decide +kernel
set_option maxRecDepth 100000 in
set_option maxHeartbeats 8000000 in
theorem lk_L_987 : cd_L.lookup 987 = some (av_q (.iconst 1)) := by decide +kernel
set_option maxRecDepth 100000 in
set_option maxHeartbeats 8000000 in
theorem lk_L_988 : cd_L.lookup 988 = some (av_q (.iadd)) := by decide +kernel
set_option maxRecDepth 100000 in
set_option maxHeartbeats 8000000 in
theorem lk_L_989 : cd_L.lookup 989 = some (av_q (.iaload)) := by decide +kernel
set_option maxRecDepth 100000 in
set_option maxHeartbeats 8000000 in
theorem lk_L_990 : cd_L.lookup 990 = some (av_q (.aload_n 0)) := by decide +kernel
set_option maxRecDepth 100000 in
set_option maxHeartbeats 8000000 in
theorem lk_L_991 : cd_L.lookup 991 = some (av_q (.iload_n 3)) := by decide +kernel
set_option maxRecDepth 100000 in
set_option maxHeartbeats 8000000 in
theorem lk_L_992 : cd_L.lookup 992 = some (av_q (.iconst 2)) := by decide +kernel
set_option maxRecDepth 100000 in
set_option maxHeartbeats 8000000 in
theorem lk_L_993 : cd_L.lookup 993 = some (av_q (.iadd)) := by decide +kernel
set_option maxRecDepth 100000 in
set_option maxHeartbeats 8000000 in
theorem lk_L_994 : cd_L.lookup 994 = some (av_q (.iaload)) := by decide +kernel
set_option maxRecDepth 100000 in
set_option maxHeartbeats 8000000 in
theorem lk_L_995 : cd_L.lookup 995 = some (av_q (.aload_n 0)) := by decide +kernel
set_option maxRecDepth 100000 in
set_option maxHeartbeats 8000000 in
theorem lk_L_996 : cd_L.lookup 996 = some (av_q (.iload_n 3)) := by decide +kernel
set_option maxRecDepth 100000 in
set_option maxHeartbeats 8000000 in
theorem lk_L_997 : cd_L.lookup 997 = some (av_q (.iconst 3)) := by decide +kernel
set_option maxRecDepth 100000 in
set_option maxHeartbeats 8000000 in
theorem lk_L_998 : cd_L.lookup 998 = some (av_q (.iadd)) := by decide +kernel
set_option maxRecDepth 100000 in
set_option maxHeartbeats 8000000 in
theorem lk_L_999 : cd_L.lookup 999 = some (av_q (.iaload)) := by decide +kernel
set_option maxRecDepth 100000 in
set_option maxHeartbeats 8000000 in
theorem lk_L_1000 : cd_L.lookup 1000 = some (av_q (.aload_n 0)) := by decide +kernel
set_option maxRecDepth 100000 in
set_option maxHeartbeats 8000000 in
theorem lk_L_1001 : cd_L.lookup 1001 = some (av_q (.iload_n 3)) := by decide +kernel
set_option maxRecDepth 100000 in
set_option maxHeartbeats 8000000 in
theorem lk_L_1002 : cd_L.lookup 1002 = some (av_q (.iconst 4)) := by decide +kernel
set_option maxRecDepth 100000 in
set_option maxHeartbeats 8000000 in
theorem lk_L_1003 : cd_L.lookup 1003 = some (av_q (.iadd)) := by decide +kernel
set_option maxRecDepth 100000 in
set_option maxHeartbeats 8000000 in
theorem lk_L_1004 : cd_L.lookup 1004 = some (av_q (.iaload)) := by decide +kernel
set_option maxRecDepth 100000 in
set_option maxHeartbeats 8000000 in
theorem lk_L_1005 : cd_L.lookup 1005 = some (av_qc (.invokevirtual 102) 205 4 0 8) := by decide +kernel
set_option maxRecDepth 100000 in
set_option maxHeartbeats 8000000 in
theorem lk_L_1008 : cd_L.lookup 1008 = some (av_qa (.if_icmp .eq 276) 1284) := by decide +kernel
set_option maxRecDepth 100000 in
set_option maxHeartbeats 8000000 in
theorem lk_L_1013 : cd_L.lookup 1013 = some (av_q (.aload_n 1)) := by decide +kernel
set_option maxRecDepth 100000 in
set_option maxHeartbeats 8000000 in
theorem lk_L_1014 : cd_L.lookup 1014 = some (av_q (.aload_n 0)) := by decide +kernel
set_option maxRecDepth 100000 in
set_option maxHeartbeats 8000000 in
theorem lk_L_1015 : cd_L.lookup 1015 = some (av_q (.iload_n 3)) := by decide +kernel
set_option maxRecDepth 100000 in
set_option maxHeartbeats 8000000 in
theorem lk_L_1016 : cd_L.lookup 1016 = some (av_q (.iconst 1)) := by decide +kernel
set_option maxRecDepth 100000 in
set_option maxHeartbeats 8000000 in
theorem lk_L_1017 : cd_L.lookup 1017 = some (av_q (.iadd)) := by decide +kernel
set_option maxRecDepth 100000 in
set_option maxHeartbeats 8000000 in
theorem lk_L_1018 : cd_L.lookup 1018 = some (av_q (.iaload)) := by decide +kernel
set_option maxRecDepth 100000 in
set_option maxHeartbeats 8000000 in
theorem lk_L_1019 : cd_L.lookup 1019 = some (av_q (.aload_n 0)) := by decide +kernel
set_option maxRecDepth 100000 in
set_option maxHeartbeats 8000000 in
theorem lk_L_1020 : cd_L.lookup 1020 = some (av_q (.iload_n 3)) := by decide +kernel
set_option maxRecDepth 100000 in
set_option maxHeartbeats 8000000 in
theorem lk_L_1021 : cd_L.lookup 1021 = some (av_q (.iconst 2)) := by decide +kernel
set_option maxRecDepth 100000 in
set_option maxHeartbeats 8000000 in
theorem lk_L_1022 : cd_L.lookup 1022 = some (av_q (.iadd)) := by decide +kernel
set_option maxRecDepth 100000 in
set_option maxHeartbeats 8000000 in
theorem lk_L_1023 : cd_L.lookup 1023 = some (av_q (.iaload)) := by decide +kernel
set_option maxRecDepth 100000 in
set_option maxHeartbeats 8000000 in
theorem lk_L_1024 : cd_L.lookup 1024 = some (av_q (.aload_n 0)) := by decide +kernel
set_option maxRecDepth 100000 in
set_option maxHeartbeats 8000000 in
theorem lk_L_1025 : cd_L.lookup 1025 = some (av_q (.iload_n 3)) := by decide +kernel
set_option maxRecDepth 100000 in
set_option maxHeartbeats 8000000 in
theorem lk_L_1026 : cd_L.lookup 1026 = some (av_q (.iconst 3)) := by decide +kernel
set_option maxRecDepth 100000 in
set_option maxHeartbeats 8000000 in
theorem lk_L_1027 : cd_L.lookup 1027 = some (av_q (.iadd)) := by decide +kernel
set_option maxRecDepth 100000 in
set_option maxHeartbeats 8000000 in
theorem lk_L_1028 : cd_L.lookup 1028 = some (av_q (.iaload)) := by decide +kernel
set_option maxRecDepth 100000 in
set_option maxHeartbeats 8000000 in
theorem lk_L_1029 : cd_L.lookup 1029 = some (av_q (.aload_n 0)) := by decide +kernel
set_option maxRecDepth 100000 in
set_option maxHeartbeats 8000000 in
theorem lk_L_1030 : cd_L.lookup 1030 = some (av_q (.iload_n 3)) := by decide +kernel
set_option maxRecDepth 100000 in
set_option maxHeartbeats 8000000 in
theorem lk_L_1031 : cd_L.lookup 1031 = some (av_q (.iconst 4)) := by decide +kernel
set_option maxRecDepth 100000 in
set_option maxHeartbeats 8000000 in
theorem lk_L_1032 : cd_L.lookup 1032 = some (av_q (.iadd)) := by decide +kernel
set_option maxRecDepth 100000 in
set_option maxHeartbeats 8000000 in
theorem lk_L_1033 : cd_L.lookup 1033 = some (av_q (.iaload)) := by decide +kernel
set_option maxRecDepth 100000 in
set_option maxHeartbeats 8000000 in
theorem lk_L_1034 : cd_L.lookup 1034 = some (av_q (.aload_n 0)) := by decide +kernel
set_option maxRecDepth 100000 in
set_option maxHeartbeats 8000000 in
theorem lk_L_1035 : cd_L.lookup 1035 = some (av_q (.iload_n 3)) := by decide +kernel
set_option maxRecDepth 100000 in
set_option maxHeartbeats 8000000 in
theorem lk_L_1036 : cd_L.lookup 1036 = some (av_q (.iconst 5)) := by decide +kernel
set_option maxRecDepth 100000 in
set_option maxHeartbeats 8000000 in
theorem lk_L_1037 : cd_L.lookup 1037 = some (av_q (.iadd)) := by decide +kernel
set_option maxRecDepth 100000 in
set_option maxHeartbeats 8000000 in
theorem lk_L_1038 : cd_L.lookup 1038 = some (av_q (.iaload)) := by decide +kernel
set_option maxRecDepth 100000 in
set_option maxHeartbeats 8000000 in
theorem lk_L_1039 : cd_L.lookup 1039 = some (av_qc (.invokevirtual 103) 117 5 0 7) := by decide +kernel
set_option maxRecDepth 100000 in
set_option maxHeartbeats 8000000 in
theorem lk_L_1042 : cd_L.lookup 1042 = some (av_q (.aload_n 2)) := by decide +kernel
set_option maxRecDepth 100000 in
set_option maxHeartbeats 8000000 in
theorem lk_L_1043 : cd_L.lookup 1043 = some (av_q (.aload_n 0)) := by decide +kernel
set_option maxRecDepth 100000 in
set_option maxHeartbeats 8000000 in
theorem lk_L_1044 : cd_L.lookup 1044 = some (av_q (.iload_n 3)) := by decide +kernel
set_option maxRecDepth 100000 in
set_option maxHeartbeats 8000000 in
theorem lk_L_1045 : cd_L.lookup 1045 = some (av_q (.iconst 1)) := by decide +kernel
set_option maxRecDepth 100000 in
set_option maxHeartbeats 8000000 in
theorem lk_L_1046 : cd_L.lookup 1046 = some (av_q (.iadd)) := by decide +kernel
set_option maxRecDepth 100000 in
set_option maxHeartbeats 8000000 in
theorem lk_L_1047 : cd_L.lookup 1047 = some (av_q (.iaload)) := by decide +kernel
set_option maxRecDepth 100000 in
set_option maxHeartbeats 8000000 in
theorem lk_L_1048 : cd_L.lookup 1048 = some (av_q (.aload_n 0)) := by decide +kernel
set_option maxRecDepth 100000 in
set_option maxHeartbeats 8000000 in
theorem lk_L_1049 : cd_L.lookup 1049 = some (av_q (.iload_n 3)) := by decide +kernel
set_option maxRecDepth 100000 in
set_option maxHeartbeats 8000000 in
theorem lk_L_1050 : cd_L.lookup 1050 = some (av_q (.iconst 2)) := by decide +kernel
set_option maxRecDepth 100000 in
set_option maxHeartbeats 8000000 in
theorem lk_L_1051 : cd_L.lookup 1051 = some (av_q (.iadd)) := by decide +kernel
set_option maxRecDepth 100000 in
set_option maxHeartbeats 8000000 in
theorem lk_L_1052 : cd_L.lookup 1052 = some (av_q (.iaload)) := by decide +kernel
set_option maxRecDepth 100000 in
set_option maxHeartbeats 8000000 in
theorem lk_L_1053 : cd_L.lookup 1053 = some (av_q (.aload_n 0)) := by decide +kernel
set_option maxRecDepth 100000 in
set_option maxHeartbeats 8000000 in
theorem lk_L_1054 : cd_L.lookup 1054 = some (av_q (.iload_n 3)) := by decide +kernel
set_option maxRecDepth 100000 in
set_option maxHeartbeats 8000000 in
theorem lk_L_1055 : cd_L.lookup 1055 = some (av_q (.iconst 3)) := by decide +kernel
set_option maxRecDepth 100000 in
set_option maxHeartbeats 8000000 in
theorem lk_L_1056 : cd_L.lookup 1056 = some (av_q (.iadd)) := by decide +kernel
set_option maxRecDepth 100000 in
set_option maxHeartbeats 8000000 in
theorem lk_L_1057 : cd_L.lookup 1057 = some (av_q (.iaload)) := by decide +kernel
set_option maxRecDepth 100000 in
set_option maxHeartbeats 8000000 in
theorem lk_L_1058 : cd_L.lookup 1058 = some (av_q (.aload_n 0)) := by decide +kernel
set_option maxRecDepth 100000 in
set_option maxHeartbeats 8000000 in
theorem lk_L_1059 : cd_L.lookup 1059 = some (av_q (.iload_n 3)) := by decide +kernel
set_option maxRecDepth 100000 in
set_option maxHeartbeats 8000000 in
theorem lk_L_1060 : cd_L.lookup 1060 = some (av_q (.iconst 4)) := by decide +kernel
set_option maxRecDepth 100000 in
set_option maxHeartbeats 8000000 in
theorem lk_L_1061 : cd_L.lookup 1061 = some (av_q (.iadd)) := by decide +kernel
set_option maxRecDepth 100000 in
set_option maxHeartbeats 8000000 in
theorem lk_L_1062 : cd_L.lookup 1062 = some (av_q (.iaload)) := by decide +kernel
set_option maxRecDepth 100000 in
set_option maxHeartbeats 8000000 in
theorem lk_L_1063 : cd_L.lookup 1063 = some (av_q (.aload_n 0)) := by decide +kernel
set_option maxRecDepth 100000 in
set_option maxHeartbeats 8000000 in
theorem lk_L_1064 : cd_L.lookup 1064 = some (av_q (.iload_n 3)) := by decide +kernel
set_option maxRecDepth 100000 in
set_option maxHeartbeats 8000000 in
theorem lk_L_1065 : cd_L.lookup 1065 = some (av_q (.iconst 5)) := by decide +kernel
set_option maxRecDepth 100000 in
set_option maxHeartbeats 8000000 in
theorem lk_L_1066 : cd_L.lookup 1066 = some (av_q (.iadd)) := by decide +kernel
set_option maxRecDepth 100000 in
set_option maxHeartbeats 8000000 in
theorem lk_L_1067 : cd_L.lookup 1067 = some (av_q (.iaload)) := by decide +kernel
set_option maxRecDepth 100000 in
set_option maxHeartbeats 8000000 in
theorem lk_L_1068 : cd_L.lookup 1068 = some (av_qc (.invokevirtual 106) 207 5 0 8) := by decide +kernel
set_option maxRecDepth 100000 in
set_option maxHeartbeats 8000000 in
theorem lk_L_1071 : cd_L.lookup 1071 = some (av_qa (.if_icmp .eq 213) 1284) := by decide +kernel
set_option maxRecDepth 100000 in
set_option maxHeartbeats 8000000 in
theorem lk_L_1076 : cd_L.lookup 1076 = some (av_q (.aload_n 1)) := by decide +kernel
set_option maxRecDepth 100000 in
set_option maxHeartbeats 8000000 in
theorem lk_L_1077 : cd_L.lookup 1077 = some (av_q (.aload_n 0)) := by decide +kernel
set_option maxRecDepth 100000 in
set_option maxHeartbeats 8000000 in
theorem lk_L_1078 : cd_L.lookup 1078 = some (av_q (.iload_n 3)) := by decide +kernel
set_option maxRecDepth 100000 in
set_option maxHeartbeats 8000000 in
theorem lk_L_1079 : cd_L.lookup 1079 = some (av_q (.iconst 1)) := by decide +kernel
set_option maxRecDepth 100000 in
set_option maxHeartbeats 8000000 in
theorem lk_L_1080 : cd_L.lookup 1080 = some (av_q (.iadd)) := by decide +kernel
set_option maxRecDepth 100000 in
set_option maxHeartbeats 8000000 in
theorem lk_L_1081 : cd_L.lookup 1081 = some (av_q (.iaload)) := by decide +kernel
set_option maxRecDepth 100000 in
set_option maxHeartbeats 8000000 in
theorem lk_L_1082 : cd_L.lookup 1082 = some (av_q (.aload_n 0)) := by decide +kernel
set_option maxRecDepth 100000 in
set_option maxHeartbeats 8000000 in
theorem lk_L_1083 : cd_L.lookup 1083 = some (av_q (.iload_n 3)) := by decide +kernel
set_option maxRecDepth 100000 in
set_option maxHeartbeats 8000000 in
theorem lk_L_1084 : cd_L.lookup 1084 = some (av_q (.iconst 2)) := by decide +kernel
set_option maxRecDepth 100000 in
set_option maxHeartbeats 8000000 in
theorem lk_L_1085 : cd_L.lookup 1085 = some (av_q (.iadd)) := by decide +kernel
set_option maxRecDepth 100000 in
set_option maxHeartbeats 8000000 in
theorem lk_L_1086 : cd_L.lookup 1086 = some (av_q (.iaload)) := by decide +kernel
set_option maxRecDepth 100000 in
set_option maxHeartbeats 8000000 in
theorem lk_L_1087 : cd_L.lookup 1087 = some (av_q (.aload_n 0)) := by decide +kernel
set_option maxRecDepth 100000 in
set_option maxHeartbeats 8000000 in
theorem lk_L_1088 : cd_L.lookup 1088 = some (av_q (.iload_n 3)) := by decide +kernel
set_option maxRecDepth 100000 in
set_option maxHeartbeats 8000000 in
theorem lk_L_1089 : cd_L.lookup 1089 = some (av_q (.iconst 3)) := by decide +kernel
set_option maxRecDepth 100000 in
set_option maxHeartbeats 8000000 in
theorem lk_L_1090 : cd_L.lookup 1090 = some (av_q (.iadd)) := by decide +kernel
set_option maxRecDepth 100000 in
set_option maxHeartbeats 8000000 in
theorem lk_L_1091 : cd_L.lookup 1091 = some (av_q (.iaload)) := by decide +kernel
set_option maxRecDepth 100000 in
set_option maxHeartbeats 8000000 in
theorem lk_L_1092 : cd_L.lookup 1092 = some (av_q (.aload_n 0)) := by decide +kernel
set_option maxRecDepth 100000 in
set_option maxHeartbeats 8000000 in
theorem lk_L_1093 : cd_L.lookup 1093 = some (av_q (.iload_n 3)) := by decide +kernel
set_option maxRecDepth 100000 in
set_option maxHeartbeats 8000000 in
theorem lk_L_1094 : cd_L.lookup 1094 = some (av_q (.iconst 4)) := by decide +kernel
set_option maxRecDepth 100000 in
set_option maxHeartbeats 8000000 in
theorem lk_L_1095 : cd_L.lookup 1095 = some (av_q (.iadd)) := by decide +kernel
set_option maxRecDepth 100000 in
set_option maxHeartbeats 8000000 in
theorem lk_L_1096 : cd_L.lookup 1096 = some (av_q (.iaload)) := by decide +kernel
set_option maxRecDepth 100000 in
set_option maxHeartbeats 8000000 in
theorem lk_L_1097 : cd_L.lookup 1097 = some (av_q (.aload_n 0)) := by decide +kernel
set_option maxRecDepth 100000 in
set_option maxHeartbeats 8000000 in
theorem lk_L_1098 : cd_L.lookup 1098 = some (av_q (.iload_n 3)) := by decide +kernel
set_option maxRecDepth 100000 in
set_option maxHeartbeats 8000000 in
theorem lk_L_1099 : cd_L.lookup 1099 = some (av_q (.iconst 5)) := by decide +kernel
set_option maxRecDepth 100000 in
set_option maxHeartbeats 8000000 in
theorem lk_L_1100 : cd_L.lookup 1100 = some (av_q (.iadd)) := by decide +kernel
set_option maxRecDepth 100000 in
set_option maxHeartbeats 8000000 in
theorem lk_L_1101 : cd_L.lookup 1101 = some (av_q (.iaload)) := by decide +kernel
set_option maxRecDepth 100000 in
set_option maxHeartbeats 8000000 in
theorem lk_L_1102 : cd_L.lookup 1102 = some (av_qc (.invokevirtual 107) 118 5 0 7) := by decide +kernel
set_option maxRecDepth 100000 in
set_option maxHeartbeats 8000000 in
theorem lk_L_1105 : cd_L.lookup 1105 = some (av_q (.aload_n 2)) := by decide +kernel
set_option maxRecDepth 100000 in
set_option maxHeartbeats 8000000 in
theorem lk_L_1106 : cd_L.lookup 1106 = some (av_q (.aload_n 0)) := by decide +kernel
set_option maxRecDepth 100000 in
set_option maxHeartbeats 8000000 in
theorem lk_L_1107 : cd_L.lookup 1107 = some (av_q (.iload_n 3)) := by decide +kernel
set_option maxRecDepth 100000 in
set_option maxHeartbeats 8000000 in
theorem lk_L_1108 : cd_L.lookup 1108 = some (av_q (.iconst 1)) := by decide +kernel
set_option maxRecDepth 100000 in
set_option maxHeartbeats 8000000 in
theorem lk_L_1109 : cd_L.lookup 1109 = some (av_q (.iadd)) := by decide +kernel
set_option maxRecDepth 100000 in
set_option maxHeartbeats 8000000 in
theorem lk_L_1110 : cd_L.lookup 1110 = some (av_q (.iaload)) := by decide +kernel
set_option maxRecDepth 100000 in
set_option maxHeartbeats 8000000 in
theorem lk_L_1111 : cd_L.lookup 1111 = some (av_q (.aload_n 0)) := by decide +kernel
set_option maxRecDepth 100000 in
set_option maxHeartbeats 8000000 in
theorem lk_L_1112 : cd_L.lookup 1112 = some (av_q (.iload_n 3)) := by decide +kernel
set_option maxRecDepth 100000 in
set_option maxHeartbeats 8000000 in
theorem lk_L_1113 : cd_L.lookup 1113 = some (av_q (.iconst 2)) := by decide +kernel
set_option maxRecDepth 100000 in
set_option maxHeartbeats 8000000 in
theorem lk_L_1114 : cd_L.lookup 1114 = some (av_q (.iadd)) := by decide +kernel
set_option maxRecDepth 100000 in
set_option maxHeartbeats 8000000 in
theorem lk_L_1115 : cd_L.lookup 1115 = some (av_q (.iaload)) := by decide +kernel
set_option maxRecDepth 100000 in
set_option maxHeartbeats 8000000 in
theorem lk_L_1116 : cd_L.lookup 1116 = some (av_q (.aload_n 0)) := by decide +kernel
set_option maxRecDepth 100000 in
set_option maxHeartbeats 8000000 in
theorem lk_L_1117 : cd_L.lookup 1117 = some (av_q (.iload_n 3)) := by decide +kernel
set_option maxRecDepth 100000 in
set_option maxHeartbeats 8000000 in
theorem lk_L_1118 : cd_L.lookup 1118 = some (av_q (.iconst 3)) := by decide +kernel
set_option maxRecDepth 100000 in
set_option maxHeartbeats 8000000 in
theorem lk_L_1119 : cd_L.lookup 1119 = some (av_q (.iadd)) := by decide +kernel
set_option maxRecDepth 100000 in
set_option maxHeartbeats 8000000 in
theorem lk_L_1120 : cd_L.lookup 1120 = some (av_q (.iaload)) := by decide +kernel
set_option maxRecDepth 100000 in
set_option maxHeartbeats 8000000 in
theorem lk_L_1121 : cd_L.lookup 1121 = some (av_q (.aload_n 0)) := by decide +kernel
set_option maxRecDepth 100000 in
set_option maxHeartbeats 8000000 in
theorem lk_L_1122 : cd_L.lookup 1122 = some (av_q (.iload_n 3)) := by decide +kernel
set_option maxRecDepth 100000 in
set_option maxHeartbeats 8000000 in
theorem lk_L_1123 : cd_L.lookup 1123 = some (av_q (.iconst 4)) := by decide +kernel
set_option maxRecDepth 100000 in
set_option maxHeartbeats 8000000 in
theorem lk_L_1124 : cd_L.lookup 1124 = some (av_q (.iadd)) := by decide +kernel
set_option maxRecDepth 100000 in
set_option maxHeartbeats 8000000 in
theorem lk_L_1125 : cd_L.lookup 1125 = some (av_q (.iaload)) := by decide +kernel
set_option maxRecDepth 100000 in
set_option maxHeartbeats 8000000 in
theorem lk_L_1126 : cd_L.lookup 1126 = some (av_q (.aload_n 0)) := by decide +kernel
set_option maxRecDepth 100000 in
set_option maxHeartbeats 8000000 in
theorem lk_L_1127 : cd_L.lookup 1127 = some (av_q (.iload_n 3)) := by decide +kernel
set_option maxRecDepth 100000 in
set_option maxHeartbeats 8000000 in
theorem lk_L_1128 : cd_L.lookup 1128 = some (av_q (.iconst 5)) := by decide +kernel
set_option maxRecDepth 100000 in
set_option maxHeartbeats 8000000 in
theorem lk_L_1129 : cd_L.lookup 1129 = some (av_q (.iadd)) := by decide +kernel
set_option maxRecDepth 100000 in
set_option maxHeartbeats 8000000 in
theorem lk_L_1130 : cd_L.lookup 1130 = some (av_q (.iaload)) := by decide +kernel
set_option maxRecDepth 100000 in
set_option maxHeartbeats 8000000 in
theorem lk_L_1131 : cd_L.lookup 1131 = some (av_qc (.invokevirtual 110) 208 5 0 8) := by decide +kernel
set_option maxRecDepth 100000 in
set_option maxHeartbeats 8000000 in
theorem lk_L_1134 : cd_L.lookup 1134 = some (av_qa (.if_icmp .eq 150) 1284) := by decide +kernel
set_option maxRecDepth 100000 in
set_option maxHeartbeats 8000000 in
theorem lk_L_1139 : cd_L.lookup 1139 = some (av_q (.aload_n 1)) := by decide +kernel
set_option maxRecDepth 100000 in
set_option maxHeartbeats 8000000 in
theorem lk_L_1140 : cd_L.lookup 1140 = some (av_q (.aload_n 0)) := by decide +kernel
set_option maxRecDepth 100000 in
set_option maxHeartbeats 8000000 in
theorem lk_L_1141 : cd_L.lookup 1141 = some (av_q (.iload_n 3)) := by decide +kernel
set_option maxRecDepth 100000 in
set_option maxHeartbeats 8000000 in
theorem lk_L_1142 : cd_L.lookup 1142 = some (av_q (.iconst 1)) := by decide +kernel
set_option maxRecDepth 100000 in
set_option maxHeartbeats 8000000 in
theorem lk_L_1143 : cd_L.lookup 1143 = some (av_q (.iadd)) := by decide +kernel
set_option maxRecDepth 100000 in
set_option maxHeartbeats 8000000 in
theorem lk_L_1144 : cd_L.lookup 1144 = some (av_q (.iaload)) := by decide +kernel
set_option maxRecDepth 100000 in
set_option maxHeartbeats 8000000 in
theorem lk_L_1145 : cd_L.lookup 1145 = some (av_q (.aload_n 0)) := by decide +kernel
set_option maxRecDepth 100000 in
set_option maxHeartbeats 8000000 in
theorem lk_L_1146 : cd_L.lookup 1146 = some (av_q (.iload_n 3)) := by decide +kernel
set_option maxRecDepth 100000 in
set_option maxHeartbeats 8000000 in
theorem lk_L_1147 : cd_L.lookup 1147 = some (av_q (.iconst 2)) := by decide +kernel
set_option maxRecDepth 100000 in
set_option maxHeartbeats 8000000 in
theorem lk_L_1148 : cd_L.lookup 1148 = some (av_q (.iadd)) := by decide +kernel
set_option maxRecDepth 100000 in
set_option maxHeartbeats 8000000 in
theorem lk_L_1149 : cd_L.lookup 1149 = some (av_q (.iaload)) := by decide +kernel
set_option maxRecDepth 100000 in
set_option maxHeartbeats 8000000 in
theorem lk_L_1150 : cd_L.lookup 1150 = some (av_q (.aload_n 0)) := by decide +kernel
set_option maxRecDepth 100000 in
set_option maxHeartbeats 8000000 in
theorem lk_L_1151 : cd_L.lookup 1151 = some (av_q (.iload_n 3)) := by decide +kernel
set_option maxRecDepth 100000 in
set_option maxHeartbeats 8000000 in
theorem lk_L_1152 : cd_L.lookup 1152 = some (av_q (.iconst 3)) := by decide +kernel
set_option maxRecDepth 100000 in
set_option maxHeartbeats 8000000 in
theorem lk_L_1153 : cd_L.lookup 1153 = some (av_q (.iadd)) := by decide +kernel
set_option maxRecDepth 100000 in
set_option maxHeartbeats 8000000 in
theorem lk_L_1154 : cd_L.lookup 1154 = some (av_q (.iaload)) := by decide +kernel
set_option maxRecDepth 100000 in
set_option maxHeartbeats 8000000 in
theorem lk_L_1155 : cd_L.lookup 1155 = some (av_qc (.invokevirtual 111) 120 3 0 7) := by decide +kernel
set_option maxRecDepth 100000 in
set_option maxHeartbeats 8000000 in
theorem lk_L_1158 : cd_L.lookup 1158 = some (av_q (.aload_n 2)) := by decide +kernel
set_option maxRecDepth 100000 in
set_option maxHeartbeats 8000000 in
theorem lk_L_1159 : cd_L.lookup 1159 = some (av_q (.aload_n 0)) := by decide +kernel
set_option maxRecDepth 100000 in
set_option maxHeartbeats 8000000 in
theorem lk_L_1160 : cd_L.lookup 1160 = some (av_q (.iload_n 3)) := by decide +kernel
set_option maxRecDepth 100000 in
set_option maxHeartbeats 8000000 in
theorem lk_L_1161 : cd_L.lookup 1161 = some (av_q (.iconst 1)) := by decide +kernel
set_option maxRecDepth 100000 in
set_option maxHeartbeats 8000000 in
theorem lk_L_1162 : cd_L.lookup 1162 = some (av_q (.iadd)) := by decide +kernel
set_option maxRecDepth 100000 in
set_option maxHeartbeats 8000000 in
theorem lk_L_1163 : cd_L.lookup 1163 = some (av_q (.iaload)) := by decide +kernel
set_option maxRecDepth 100000 in
set_option maxHeartbeats 8000000 in
theorem lk_L_1164 : cd_L.lookup 1164 = some (av_q (.aload_n 0)) := by decide +kernel
set_option maxRecDepth 100000 in
set_option maxHeartbeats 8000000 in
theorem lk_L_1165 : cd_L.lookup 1165 = some (av_q (.iload_n 3)) := by decide +kernel
set_option maxRecDepth 100000 in
set_option maxHeartbeats 8000000 in
theorem lk_L_1166 : cd_L.lookup 1166 = some (av_q (.iconst 2)) := by decide +kernel
set_option maxRecDepth 100000 in
set_option maxHeartbeats 8000000 in
theorem lk_L_1167 : cd_L.lookup 1167 = some (av_q (.iadd)) := by decide +kernel
set_option maxRecDepth 100000 in
set_option maxHeartbeats 8000000 in
theorem lk_L_1168 : cd_L.lookup 1168 = some (av_q (.iaload)) := by decide +kernel
set_option maxRecDepth 100000 in
set_option maxHeartbeats 8000000 in
theorem lk_L_1169 : cd_L.lookup 1169 = some (av_q (.aload_n 0)) := by decide +kernel
set_option maxRecDepth 100000 in
set_option maxHeartbeats 8000000 in
theorem lk_L_1170 : cd_L.lookup 1170 = some (av_q (.iload_n 3)) := by decide +kernel
set_option maxRecDepth 100000 in
set_option maxHeartbeats 8000000 in
theorem lk_L_1171 : cd_L.lookup 1171 = some (av_q (.iconst 3)) := by decide +kernel
set_option maxRecDepth 100000 in
set_option maxHeartbeats 8000000 in
theorem lk_L_1172 : cd_L.lookup 1172 = some (av_q (.iadd)) := by decide +kernel
set_option maxRecDepth 100000 in
set_option maxHeartbeats 8000000 in
theorem lk_L_1173 : cd_L.lookup 1173 = some (av_q (.iaload)) := by decide +kernel
set_option maxRecDepth 100000 in
set_option maxHeartbeats 8000000 in
theorem lk_L_1174 : cd_L.lookup 1174 = some (av_qc (.invokevirtual 114) 211 3 0 8) := by decide +kernel
set_option maxRecDepth 100000 in
set_option maxHeartbeats 8000000 in
theorem lk_L_1177 : cd_L.lookup 1177 = some (av_qa (.if_icmp .eq 107) 1284) := by decide +kernel
set_option maxRecDepth 100000 in
set_option maxHeartbeats 8000000 in
theorem lk_L_1182 : cd_L.lookup 1182 = some (av_q (.aload_n 1)) := by decide +kernel
set_option maxRecDepth 100000 in
set_option maxHeartbeats 8000000 in
theorem lk_L_1183 : cd_L.lookup 1183 = some (av_q (.aload_n 0)) := by decide +kernel
set_option maxRecDepth 100000 in
set_option maxHeartbeats 8000000 in
theorem lk_L_1184 : cd_L.lookup 1184 = some (av_q (.iload_n 3)) := by decide +kernel
set_option maxRecDepth 100000 in
set_option maxHeartbeats 8000000 in
theorem lk_L_1185 : cd_L.lookup 1185 = some (av_q (.iconst 1)) := by decide +kernel
set_option maxRecDepth 100000 in
set_option maxHeartbeats 8000000 in
theorem lk_L_1186 : cd_L.lookup 1186 = some (av_q (.iadd)) := by decide +kernel
set_option maxRecDepth 100000 in
set_option maxHeartbeats 8000000 in
theorem lk_L_1187 : cd_L.lookup 1187 = some (av_q (.iaload)) := by decide +kernel
set_option maxRecDepth 100000 in
set_option maxHeartbeats 8000000 in
theorem lk_L_1188 : cd_L.lookup 1188 = some (av_q (.aload_n 0)) := by decide +kernel
set_option maxRecDepth 100000 in
set_option maxHeartbeats 8000000 in
theorem lk_L_1189 : cd_L.lookup 1189 = some (av_q (.iload_n 3)) := by decide +kernel
set_option maxRecDepth 100000 in
set_option maxHeartbeats 8000000 in
theorem lk_L_1190 : cd_L.lookup 1190 = some (av_q (.iconst 2)) := by decide +kernel
set_option maxRecDepth 100000 in
set_option maxHeartbeats 8000000 in
theorem lk_L_1191 : cd_L.lookup 1191 = some (av_q (.iadd)) := by decide +kernel
set_option maxRecDepth 100000 in
set_option maxHeartbeats 8000000 in
theorem lk_L_1192 : cd_L.lookup 1192 = some (av_q (.iaload)) := by decide +kernel
set_option maxRecDepth 100000 in
set_option maxHeartbeats 8000000 in
theorem lk_L_1193 : cd_L.lookup 1193 = some (av_q (.aload_n 0)) := by decide +kernel
set_option maxRecDepth 100000 in
set_option maxHeartbeats 8000000 in
theorem lk_L_1194 : cd_L.lookup 1194 = some (av_q (.iload_n 3)) := by decide +kernel
set_option maxRecDepth 100000 in
set_option maxHeartbeats 8000000 in
theorem lk_L_1195 : cd_L.lookup 1195 = some (av_q (.iconst 3)) := by decide +kernel
set_option maxRecDepth 100000 in
set_option maxHeartbeats 8000000 in
theorem lk_L_1196 : cd_L.lookup 1196 = some (av_q (.iadd)) := by decide +kernel
set_option maxRecDepth 100000 in
set_option maxHeartbeats 8000000 in
theorem lk_L_1197 : cd_L.lookup 1197 = some (av_q (.iaload)) := by decide +kernel
set_option maxRecDepth 100000 in
set_option maxHeartbeats 8000000 in
theorem lk_L_1198 : cd_L.lookup 1198 = some (av_qc (.invokevirtual 115) 121 3 0 7) := by decide +kernel
set_option maxRecDepth 100000 in
set_option maxHeartbeats 8000000 in
theorem lk_L_1201 : cd_L.lookup 1201 = some (av_q (.aload_n 2)) := by decide +kernel
set_option maxRecDepth 100000 in
set_option maxHeartbeats 8000000 in
theorem lk_L_1202 : cd_L.lookup 1202 = some (av_q (.aload_n 0)) := by decide +kernel
set_option maxRecDepth 100000 in
set_option maxHeartbeats 8000000 in
theorem lk_L_1203 : cd_L.lookup 1203 = some (av_q (.iload_n 3)) := by decide +kernel
set_option maxRecDepth 100000 in
set_option maxHeartbeats 8000000 in
theorem lk_L_1204 : cd_L.lookup 1204 = some (av_q (.iconst 1)) := by decide +kernel
set_option maxRecDepth 100000 in
set_option maxHeartbeats 8000000 in
theorem lk_L_1205 : cd_L.lookup 1205 = some (av_q (.iadd)) := by decide +kernel
set_option maxRecDepth 100000 in
set_option maxHeartbeats 8000000 in
theorem lk_L_1206 : cd_L.lookup 1206 = some (av_q (.iaload)) := by decide +kernel
set_option maxRecDepth 100000 in
set_option maxHeartbeats 8000000 in
theorem lk_L_1207 : cd_L.lookup 1207 = some (av_q (.aload_n 0)) := by decide +kernel
set_option maxRecDepth 100000 in
set_option maxHeartbeats 8000000 in
theorem lk_L_1208 : cd_L.lookup 1208 = some (av_q (.iload_n 3)) := by decide +kernel
set_option maxRecDepth 100000 in
set_option maxHeartbeats 8000000 in
theorem lk_L_1209 : cd_L.lookup 1209 = some (av_q (.iconst 2)) := by decide +kernel
set_option maxRecDepth 100000 in
set_option maxHeartbeats 8000000 in
theorem lk_L_1210 : cd_L.lookup 1210 = some (av_q (.iadd)) := by decide +kernel
set_option maxRecDepth 100000 in
set_option maxHeartbeats 8000000 in
theorem lk_L_1211 : cd_L.lookup 1211 = some (av_q (.iaload)) := by decide +kernel
set_option maxRecDepth 100000 in
set_option maxHeartbeats 8000000 in
theorem lk_L_1212 : cd_L.lookup 1212 = some (av_q (.aload_n 0)) := by decide +kernel
set_option maxRecDepth 100000 in
set_option maxHeartbeats 8000000 in
theorem lk_L_1213 : cd_L.lookup 1213 = some (av_q (.iload_n 3)) := by decide +kernel
set_option maxRecDepth 100000 in
set_option maxHeartbeats 8000000 in
theorem lk_L_1214 : cd_L.lookup 1214 = some (av_q (.iconst 3)) := by decide +kernel
set_option maxRecDepth 100000 in
set_option maxHeartbeats 8000000 in
theorem lk_L_1215 : cd_L.lookup 1215 = some (av_q (.iadd)) := by decide +kernel
set_option maxRecDepth 100000 in
set_option maxHeartbeats 8000000 in
theorem lk_L_1216 : cd_L.lookup 1216 = some (av_q (.iaload)) := by decide +kernel
set_option maxRecDepth 100000 in
set_option maxHeartbeats 8000000 in
theorem lk_L_1217 : cd_L.lookup 1217 = some (av_qc (.invokevirtual 118) 212 3 0 8) := by decide +kernel
set_option maxRecDepth 100000 in
set_option maxHeartbeats 8000000 in
theorem lk_L_1220 : cd_L.lookup 1220 = some (av_qa (.if_icmp .eq 64) 1284) := by decide +kernel
set_option maxRecDepth 100000 in
set_option maxHeartbeats 8000000 in
theorem lk_L_1238 : cd_L.lookup 1238 = some (av_q (.aload_n 1)) := by decide +kernel
set_option maxRecDepth 100000 in
set_option maxHeartbeats 8000000 in
theorem lk_L_1239 : cd_L.lookup 1239 = some (av_q (.aload_n 0)) := by decide +kernel
set_option maxRecDepth 100000 in
set_option maxHeartbeats 8000000 in
theorem lk_L_1240 : cd_L.lookup 1240 = some (av_q (.iload_n 3)) := by decide +kernel
set_option maxRecDepth 100000 in
set_option maxHeartbeats 8000000 in
theorem lk_L_1241 : cd_L.lookup 1241 = some (av_q (.iconst 1)) := by decide +kernel
set_option maxRecDepth 100000 in
set_option maxHeartbeats 8000000 in
theorem lk_L_1242 : cd_L.lookup 1242 = some (av_q (.iadd)) := by decide +kernel
set_option maxRecDepth 100000 in
set_option maxHeartbeats 8000000 in
theorem lk_L_1243 : cd_L.lookup 1243 = some (av_q (.iaload)) := by decide +kernel
set_option maxRecDepth 100000 in
set_option maxHeartbeats 8000000 in
theorem lk_L_1244 : cd_L.lookup 1244 = some (av_qc (.invokevirtual 123) 124 1 0 7) := by decide +kernel
set_option maxRecDepth 100000 in
set_option maxHeartbeats 8000000 in
theorem lk_L_1247 : cd_L.lookup 1247 = some (av_q (.aload_n 2)) := by decide +kernel
set_option maxRecDepth 100000 in
set_option maxHeartbeats 8000000 in
theorem lk_L_1248 : cd_L.lookup 1248 = some (av_q (.aload_n 0)) := by decide +kernel
set_option maxRecDepth 100000 in
set_option maxHeartbeats 8000000 in
theorem lk_L_1249 : cd_L.lookup 1249 = some (av_q (.iload_n 3)) := by decide +kernel
set_option maxRecDepth 100000 in
set_option maxHeartbeats 8000000 in
theorem lk_L_1250 : cd_L.lookup 1250 = some (av_q (.iconst 1)) := by decide +kernel
set_option maxRecDepth 100000 in
set_option maxHeartbeats 8000000 in
theorem lk_L_1251 : cd_L.lookup 1251 = some (av_q (.iadd)) := by decide +kernel
set_option maxRecDepth 100000 in
set_option maxHeartbeats 8000000 in
theorem lk_L_1252 : cd_L.lookup 1252 = some (av_q (.iaload)) := by decide +kernel
set_option maxRecDepth 100000 in
set_option maxHeartbeats 8000000 in
theorem lk_L_1253 : cd_L.lookup 1253 = some (av_qc (.invokevirtual 127) 215 1 0 8) := by decide +kernel
set_option maxRecDepth 100000 in
set_option maxHeartbeats 8000000 in
theorem lk_L_1256 : cd_L.lookup 1256 = some (av_qa (.if_icmp .eq 28) 1284) := by decide +kernel
set_option maxRecDepth 100000 in
set_option maxHeartbeats 8000000 in
theorem lk_L_1261 : cd_L.lookup 1261 = some (av_q (.aload_n 1)) := by decide +kernel
set_option maxRecDepth 100000 in
set_option maxHeartbeats 8000000 in
theorem lk_L_1262 : cd_L.lookup 1262 = some (av_q (.aload_n 0)) := by decide +kernel
set_option maxRecDepth 100000 in
set_option maxHeartbeats 8000000 in
theorem lk_L_1263 : cd_L.lookup 1263 = some (av_q (.iload_n 3)) := by decide +kernel
set_option maxRecDepth 100000 in
set_option maxHeartbeats 8000000 in
theorem lk_L_1264 : cd_L.lookup 1264 = some (av_q (.iconst 1)) := by decide +kernel
set_option maxRecDepth 100000 in
set_option maxHeartbeats 8000000 in
theorem lk_L_1265 : cd_L.lookup 1265 = some (av_q (.iadd)) := by decide +kernel
set_option maxRecDepth 100000 in
set_option maxHeartbeats 8000000 in
theorem lk_L_1266 : cd_L.lookup 1266 = some (av_q (.iaload)) := by decide +kernel
set_option maxRecDepth 100000 in
set_option maxHeartbeats 8000000 in
theorem lk_L_1267 : cd_L.lookup 1267 = some (av_qc (.invokevirtual 128) 125 1 0 7) := by decide +kernel
set_option maxRecDepth 100000 in
set_option maxHeartbeats 8000000 in
theorem lk_L_1270 : cd_L.lookup 1270 = some (av_q (.aload_n 2)) := by decide +kernel
set_option maxRecDepth 100000 in
set_option maxHeartbeats 8000000 in
theorem lk_L_1271 : cd_L.lookup 1271 = some (av_q (.aload_n 0)) := by decide +kernel
set_option maxRecDepth 100000 in
set_option maxHeartbeats 8000000 in
theorem lk_L_1272 : cd_L.lookup 1272 = some (av_q (.iload_n 3)) := by decide +kernel
set_option maxRecDepth 100000 in
set_option maxHeartbeats 8000000 in
theorem lk_L_1273 : cd_L.lookup 1273 = some (av_q (.iconst 1)) := by decide +kernel
set_option maxRecDepth 100000 in
set_option maxHeartbeats 8000000 in
theorem lk_L_1274 : cd_L.lookup 1274 = some (av_q (.iadd)) := by decide +kernel
set_option maxRecDepth 100000 in
set_option maxHeartbeats 8000000 in
theorem lk_L_1275 : cd_L.lookup 1275 = some (av_q (.iaload)) := by decide +kernel
set_option maxRecDepth 100000 in
set_option maxHeartbeats 8000000 in
theorem lk_L_1276 : cd_L.lookup 1276 = some (av_qc (.invokevirtual 131) 217 1 0 8) := by decide +kernel
set_option maxRecDepth 100000 in
set_option maxHeartbeats 8000000 in
theorem lk_L_1279 : cd_L.lookup 1279 = some (av_qa (.if_icmp .eq 5) 1284) := by decide +kernel
set_option maxRecDepth 100000 in
set_option maxHeartbeats 8000000 in
theorem lk_L_1284 : cd_L.lookup 1284 = some (av_q (.iinc 3 6)) := by decide +kernel
set_option maxRecDepth 100000 in
set_option maxHeartbeats 8000000 in
theorem lk_L_1287 : cd_L.lookup 1287 = some (av_qa (.goto (-1269)) 18) := by decide +kernel
set_option maxRecDepth 100000 in
set_option maxHeartbeats 8000000 in
theorem lk_L_1290 : cd_L.lookup 1290 = some (av_q (.iconst 1)) := by decide +kernel
set_option maxRecDepth 100000 in
set_option maxHeartbeats 8000000 in
theorem lk_L_1291 : cd_L.lookup 1291 = some (av_qa (.ireturn) 1) := by decide +kernel
