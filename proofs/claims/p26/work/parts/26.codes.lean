/-! THE TABLE HOLDS: codes 168 on -/
set_option maxRecDepth 100000 in
set_option maxHeartbeats 2000000 in
theorem dk_168 : av_dok av_TT ms_168 := av_dokB_ok (by decide +kernel)
set_option maxRecDepth 100000 in
set_option maxHeartbeats 2000000 in
theorem dk_169 : av_dok av_TT ms_169 := av_dokB_ok (by decide +kernel)
set_option maxRecDepth 100000 in
set_option maxHeartbeats 2000000 in
theorem dk_170 : av_dok av_TT ms_170 := av_dokB_ok (by decide +kernel)
set_option maxRecDepth 100000 in
set_option maxHeartbeats 2000000 in
theorem dk_171 : av_dok av_TT ms_171 := av_dokB_ok (by decide +kernel)
set_option maxRecDepth 100000 in
set_option maxHeartbeats 2000000 in
theorem dk_172 : av_dok av_TT ms_172 := av_dokB_ok (by decide +kernel)
set_option maxRecDepth 100000 in
set_option maxHeartbeats 2000000 in
theorem dk_173 : av_dok av_TT ms_173 := av_dokB_ok (by decide +kernel)
set_option maxRecDepth 100000 in
set_option maxHeartbeats 2000000 in
theorem dk_174 : av_dok av_TT ms_174 := av_dokB_ok (by decide +kernel)
set_option maxRecDepth 100000 in
set_option maxHeartbeats 2000000 in
theorem dk_175 : av_dok av_TT ms_175 := av_dokB_ok (by decide +kernel)
set_option maxRecDepth 100000 in
set_option maxHeartbeats 2000000 in
theorem dk_176 : av_dok av_TT ms_176 := av_dokB_ok (by decide +kernel)
set_option maxRecDepth 100000 in
set_option maxHeartbeats 2000000 in
theorem dk_177 : av_dok av_TT ms_177 := av_dokB_ok (by decide +kernel)
set_option maxRecDepth 100000 in
set_option maxHeartbeats 2000000 in
theorem dk_178 : av_dok av_TT ms_178 := av_dokB_ok (by decide +kernel)
set_option maxRecDepth 100000 in
set_option maxHeartbeats 2000000 in
theorem dk_179 : av_dok av_TT ms_179 := av_dokB_ok (by decide +kernel)
set_option maxRecDepth 100000 in
set_option maxHeartbeats 2000000 in
theorem dk_180 : av_dok av_TT ms_180 := av_dokB_ok (by decide +kernel)
set_option maxRecDepth 100000 in
set_option maxHeartbeats 2000000 in
theorem dk_181 : av_dok av_TT ms_181 := av_dokB_ok (by decide +kernel)
set_option maxRecDepth 100000 in
set_option maxHeartbeats 2000000 in
theorem dk_182 : av_dok av_TT ms_182 := av_dokB_ok (by decide +kernel)
set_option maxRecDepth 100000 in
set_option maxHeartbeats 2000000 in
theorem dk_183 : av_dok av_TT ms_183 := av_dokB_ok (by decide +kernel)
set_option maxRecDepth 100000 in
set_option maxHeartbeats 2000000 in
theorem dk_184 : av_dok av_TT ms_184 := av_dokB_ok (by decide +kernel)
set_option maxRecDepth 100000 in
set_option maxHeartbeats 2000000 in
theorem dk_185 : av_dok av_TT ms_185 := av_dokB_ok (by decide +kernel)
set_option maxRecDepth 100000 in
set_option maxHeartbeats 2000000 in
theorem dk_186 : av_dok av_TT ms_186 := av_dokB_ok (by decide +kernel)
set_option maxRecDepth 100000 in
set_option maxHeartbeats 2000000 in
theorem dk_187 : av_dok av_TT ms_187 := av_dokB_ok (by decide +kernel)
set_option maxRecDepth 100000 in
set_option maxHeartbeats 2000000 in
theorem dk_188 : av_dok av_TT ms_188 := av_dokB_ok (by decide +kernel)
set_option maxRecDepth 100000 in
set_option maxHeartbeats 2000000 in
theorem dk_189 : av_dok av_TT ms_189 := av_dokB_ok (by decide +kernel)
set_option maxRecDepth 100000 in
set_option maxHeartbeats 2000000 in
theorem dk_190 : av_dok av_TT ms_190 := av_dokB_ok (by decide +kernel)
set_option maxRecDepth 100000 in
set_option maxHeartbeats 2000000 in
theorem dk_191 : av_dok av_TT ms_191 := av_dokB_ok (by decide +kernel)
set_option maxRecDepth 100000 in
set_option maxHeartbeats 2000000 in
theorem dk_192 : av_dok av_TT ms_192 := av_dokB_ok (by decide +kernel)
set_option maxRecDepth 100000 in
set_option maxHeartbeats 2000000 in
theorem dk_193 : av_dok av_TT ms_193 := av_dokB_ok (by decide +kernel)
set_option maxRecDepth 100000 in
set_option maxHeartbeats 2000000 in
theorem dk_194 : av_dok av_TT ms_194 := av_dokB_ok (by decide +kernel)
set_option maxRecDepth 100000 in
set_option maxHeartbeats 2000000 in
theorem dk_195 : av_dok av_TT ms_195 := av_dokB_ok (by decide +kernel)
set_option maxRecDepth 100000 in
set_option maxHeartbeats 2000000 in
theorem dk_196 : av_dok av_TT ms_196 := av_dokB_ok (by decide +kernel)
set_option maxRecDepth 100000 in
set_option maxHeartbeats 2000000 in
theorem dk_197 : av_dok av_TT ms_197 := av_dokB_ok (by decide +kernel)
set_option maxRecDepth 100000 in
set_option maxHeartbeats 2000000 in
theorem dk_198 : av_dok av_TT ms_198 := av_dokB_ok (by decide +kernel)
set_option maxRecDepth 100000 in
set_option maxHeartbeats 2000000 in
theorem dk_199 : av_dok av_TT ms_199 := av_dokB_ok (by decide +kernel)
set_option maxRecDepth 100000 in
set_option maxHeartbeats 2000000 in
theorem dk_200 : av_dok av_TT ms_200 := av_dokB_ok (by decide +kernel)
set_option maxRecDepth 100000 in
set_option maxHeartbeats 2000000 in
theorem dk_201 : av_dok av_TT ms_201 := av_dokB_ok (by decide +kernel)
set_option maxRecDepth 100000 in
set_option maxHeartbeats 2000000 in
theorem dk_202 : av_dok av_TT ms_202 := av_dokB_ok (by decide +kernel)
set_option maxRecDepth 100000 in
set_option maxHeartbeats 2000000 in
theorem dk_203 : av_dok av_TT ms_203 := av_dokB_ok (by decide +kernel)
set_option maxRecDepth 100000 in
set_option maxHeartbeats 2000000 in
theorem dk_204 : av_dok av_TT ms_204 := av_dokB_ok (by decide +kernel)
set_option maxRecDepth 100000 in
set_option maxHeartbeats 2000000 in
theorem dk_205 : av_dok av_TT ms_205 := av_dokB_ok (by decide +kernel)
set_option maxRecDepth 100000 in
set_option maxHeartbeats 2000000 in
theorem dk_206 : av_dok av_TT ms_206 := av_dokB_ok (by decide +kernel)
set_option maxRecDepth 100000 in
set_option maxHeartbeats 2000000 in
theorem dk_207 : av_dok av_TT ms_207 := av_dokB_ok (by decide +kernel)
set_option maxRecDepth 100000 in
set_option maxHeartbeats 2000000 in
theorem dk_208 : av_dok av_TT ms_208 := av_dokB_ok (by decide +kernel)
set_option maxRecDepth 100000 in
set_option maxHeartbeats 2000000 in
theorem dk_209 : av_dok av_TT ms_209 := av_dokB_ok (by decide +kernel)
set_option maxRecDepth 100000 in
set_option maxHeartbeats 2000000 in
theorem dk_210 : av_dok av_TT ms_210 := av_dokB_ok (by decide +kernel)
set_option maxRecDepth 100000 in
set_option maxHeartbeats 2000000 in
theorem dk_211 : av_dok av_TT ms_211 := av_dokB_ok (by decide +kernel)
set_option maxRecDepth 100000 in
set_option maxHeartbeats 2000000 in
theorem dk_212 : av_dok av_TT ms_212 := av_dokB_ok (by decide +kernel)
set_option maxRecDepth 100000 in
set_option maxHeartbeats 2000000 in
theorem dk_213 : av_dok av_TT ms_213 := av_dokB_ok (by decide +kernel)
set_option maxRecDepth 100000 in
set_option maxHeartbeats 2000000 in
theorem dk_214 : av_dok av_TT ms_214 := av_dokB_ok (by decide +kernel)
set_option maxRecDepth 100000 in
set_option maxHeartbeats 2000000 in
theorem dk_215 : av_dok av_TT ms_215 := av_dokB_ok (by decide +kernel)
set_option maxRecDepth 100000 in
set_option maxHeartbeats 2000000 in
theorem dk_216 : av_dok av_TT ms_216 := av_dokB_ok (by decide +kernel)
set_option maxRecDepth 100000 in
set_option maxHeartbeats 2000000 in
theorem dk_217 : av_dok av_TT ms_217 := av_dokB_ok (by decide +kernel)
set_option maxRecDepth 100000 in
set_option maxHeartbeats 2000000 in
theorem dk_218 : av_dok av_TT ms_218 := av_dokB_ok (by decide +kernel)
set_option maxRecDepth 100000 in
set_option maxHeartbeats 2000000 in
theorem dk_219 : av_dok av_TT ms_219 := av_dokB_ok (by decide +kernel)
set_option maxRecDepth 100000 in
set_option maxHeartbeats 2000000 in
theorem dk_220 : av_dok av_TT ms_220 := av_dokB_ok (by decide +kernel)
set_option maxRecDepth 100000 in
set_option maxHeartbeats 2000000 in
theorem dk_221 : av_dok av_TT ms_221 := av_dokB_ok (by decide +kernel)
set_option maxRecDepth 100000 in
set_option maxHeartbeats 2000000 in
theorem dk_222 : av_dok av_TT ms_222 := av_dokB_ok (by decide +kernel)
