/-! ===== the contracts are checked (printed by wip/safe/gen.py) ===== -/
set_option maxRecDepth 100000 in
theorem ck_178_E : ab_chkE mt_prog cs_mt cs_cd cs_all 178 cq_178 mt_X11_habitOf cu_178 = true := by decide +kernel
set_option maxRecDepth 100000 in
theorem ck_178_0 : ab_chkC mt_prog cs_mt cs_cd cs_all 178 cq_178 mt_X11_habitOf cu_178 cu_178_0 = true := by decide +kernel
set_option maxRecDepth 100000 in
theorem ck_178_1 : ab_chkC mt_prog cs_mt cs_cd cs_all 178 cq_178 mt_X11_habitOf cu_178 cu_178_1 = true := by decide +kernel
set_option maxRecDepth 100000 in
theorem ck_179_E : ab_chkE mt_prog cs_mt cs_cd cs_all 179 cq_179 mt_X11_mix cu_179 = true := by decide +kernel
set_option maxRecDepth 100000 in
theorem ck_180_E : ab_chkE mt_prog cs_mt cs_cd cs_all 180 cq_180 mt_X11_mixCustoms cu_180 = true := by decide +kernel
set_option maxRecDepth 100000 in
theorem ck_180_0 : ab_chkC mt_prog cs_mt cs_cd cs_all 180 cq_180 mt_X11_mixCustoms cu_180 cu_180_0 = true := by decide +kernel
set_option maxRecDepth 100000 in
theorem ck_181_E : ab_chkE mt_prog cs_mt cs_cd cs_all 181 cq_181 mt_X11_digest cu_181 = true := by decide +kernel
set_option maxRecDepth 100000 in
theorem ck_181_0 : ab_chkC mt_prog cs_mt cs_cd cs_all 181 cq_181 mt_X11_digest cu_181 cu_181_0 = true := by decide +kernel
set_option maxRecDepth 100000 in
theorem ck_181_1 : ab_chkC mt_prog cs_mt cs_cd cs_all 181 cq_181 mt_X11_digest cu_181 cu_181_1 = true := by decide +kernel
set_option maxRecDepth 100000 in
theorem ck_181_2 : ab_chkC mt_prog cs_mt cs_cd cs_all 181 cq_181 mt_X11_digest cu_181 cu_181_2 = true := by decide +kernel
set_option maxRecDepth 100000 in
theorem ck_181_3 : ab_chkC mt_prog cs_mt cs_cd cs_all 181 cq_181 mt_X11_digest cu_181 cu_181_3 = true := by decide +kernel
set_option maxRecDepth 100000 in
theorem ck_181_4 : ab_chkC mt_prog cs_mt cs_cd cs_all 181 cq_181 mt_X11_digest cu_181 cu_181_4 = true := by decide +kernel
set_option maxRecDepth 100000 in
theorem ck_181_5 : ab_chkC mt_prog cs_mt cs_cd cs_all 181 cq_181 mt_X11_digest cu_181 cu_181_5 = true := by decide +kernel
set_option maxRecDepth 100000 in
theorem ck_181_6 : ab_chkC mt_prog cs_mt cs_cd cs_all 181 cq_181 mt_X11_digest cu_181 cu_181_6 = true := by decide +kernel
set_option maxRecDepth 100000 in
theorem ck_182_E : ab_chkE mt_prog cs_mt cs_cd cs_all 182 cq_182 mt_X11_firstStep cu_182 = true := by decide +kernel
set_option maxRecDepth 100000 in
theorem ck_182_0 : ab_chkC mt_prog cs_mt cs_cd cs_all 182 cq_182 mt_X11_firstStep cu_182 cu_182_0 = true := by decide +kernel
set_option maxRecDepth 100000 in
theorem ck_182_1 : ab_chkC mt_prog cs_mt cs_cd cs_all 182 cq_182 mt_X11_firstStep cu_182 cu_182_1 = true := by decide +kernel
set_option maxRecDepth 100000 in
theorem ck_182_2 : ab_chkC mt_prog cs_mt cs_cd cs_all 182 cq_182 mt_X11_firstStep cu_182 cu_182_2 = true := by decide +kernel
set_option maxRecDepth 100000 in
theorem ck_182_3 : ab_chkC mt_prog cs_mt cs_cd cs_all 182 cq_182 mt_X11_firstStep cu_182 cu_182_3 = true := by decide +kernel
set_option maxRecDepth 100000 in
theorem ck_183_E : ab_chkE mt_prog cs_mt cs_cd cs_all 183 cq_183 mt_X11_good cu_183 = true := by decide +kernel
set_option maxRecDepth 100000 in
theorem ck_184_E : ab_chkE mt_prog cs_mt cs_cd cs_all 184 cq_184 mt_X11_habit cu_184 = true := by decide +kernel
set_option maxRecDepth 100000 in
theorem ck_185_E : ab_chkE mt_prog cs_mt cs_cd cs_all 185 cq_185 mt_X11_hands cu_185 = true := by decide +kernel
set_option maxRecDepth 100000 in
theorem ck_185_0 : ab_chkC mt_prog cs_mt cs_cd cs_all 185 cq_185 mt_X11_hands cu_185 cu_185_0 = true := by decide +kernel
set_option maxRecDepth 100000 in
theorem ck_185_1 : ab_chkC mt_prog cs_mt cs_cd cs_all 185 cq_185 mt_X11_hands cu_185 cu_185_1 = true := by decide +kernel
set_option maxRecDepth 100000 in
theorem ck_186_E : ab_chkE mt_prog cs_mt cs_cd cs_all 186 cq_186 mt_X11_holds cu_186 = true := by decide +kernel
set_option maxRecDepth 100000 in
theorem ck_186_0 : ab_chkC mt_prog cs_mt cs_cd cs_all 186 cq_186 mt_X11_holds cu_186 cu_186_0 = true := by decide +kernel
set_option maxRecDepth 100000 in
theorem ck_187_E : ab_chkE mt_prog cs_mt cs_cd cs_all 187 cq_187 mt_X11_putRight cu_187 = true := by decide +kernel
set_option maxRecDepth 100000 in
theorem ck_187_0 : ab_chkC mt_prog cs_mt cs_cd cs_all 187 cq_187 mt_X11_putRight cu_187 cu_187_0 = true := by decide +kernel
set_option maxRecDepth 100000 in
theorem ck_187_1 : ab_chkC mt_prog cs_mt cs_cd cs_all 187 cq_187 mt_X11_putRight cu_187 cu_187_1 = true := by decide +kernel
set_option maxRecDepth 100000 in
theorem ck_188_E : ab_chkE mt_prog cs_mt cs_cd cs_all 188 cq_188 mt_X11_isTaken cu_188 = true := by decide +kernel
set_option maxRecDepth 100000 in
theorem ck_188_0 : ab_chkC mt_prog cs_mt cs_cd cs_all 188 cq_188 mt_X11_isTaken cu_188 cu_188_0 = true := by decide +kernel
set_option maxRecDepth 100000 in
theorem ck_189_E : ab_chkE mt_prog cs_mt cs_cd cs_all 189 cq_189 mt_X11_worthOf cu_189 = true := by decide +kernel
set_option maxRecDepth 100000 in
theorem ck_189_0 : ab_chkC mt_prog cs_mt cs_cd cs_all 189 cq_189 mt_X11_worthOf cu_189 cu_189_0 = true := by decide +kernel
set_option maxRecDepth 100000 in
theorem ck_190_E : ab_chkE mt_prog cs_mt cs_cd cs_all 190 cq_190 mt_X11_isBy cu_190 = true := by decide +kernel
set_option maxRecDepth 100000 in
theorem ck_191_E : ab_chkE mt_prog cs_mt cs_cd cs_all 191 cq_191 mt_X11_putRight cu_191 = true := by decide +kernel
set_option maxRecDepth 100000 in
theorem ck_191_0 : ab_chkC mt_prog cs_mt cs_cd cs_all 191 cq_191 mt_X11_putRight cu_191 cu_191_0 = true := by decide +kernel
set_option maxRecDepth 100000 in
theorem ck_191_1 : ab_chkC mt_prog cs_mt cs_cd cs_all 191 cq_191 mt_X11_putRight cu_191 cu_191_1 = true := by decide +kernel
set_option maxRecDepth 100000 in
theorem ck_192_E : ab_chkE mt_prog cs_mt cs_cd cs_all 192 cq_192 mt_X11_isBy cu_192 = true := by decide +kernel
set_option maxRecDepth 100000 in
theorem ck_193_E : ab_chkE mt_prog cs_mt cs_cd cs_all 193 cq_193 mt_X11_putRight cu_193 = true := by decide +kernel
set_option maxRecDepth 100000 in
theorem ck_193_0 : ab_chkC mt_prog cs_mt cs_cd cs_all 193 cq_193 mt_X11_putRight cu_193 cu_193_0 = true := by decide +kernel
set_option maxRecDepth 100000 in
theorem ck_193_1 : ab_chkC mt_prog cs_mt cs_cd cs_all 193 cq_193 mt_X11_putRight cu_193 cu_193_1 = true := by decide +kernel
set_option maxRecDepth 100000 in
theorem ck_194_E : ab_chkE mt_prog cs_mt cs_cd cs_all 194 cq_194 mt_X11_isBy cu_194 = true := by decide +kernel
set_option maxRecDepth 100000 in
theorem ck_195_E : ab_chkE mt_prog cs_mt cs_cd cs_all 195 cq_195 mt_X11_isTaken cu_195 = true := by decide +kernel
set_option maxRecDepth 100000 in
theorem ck_195_0 : ab_chkC mt_prog cs_mt cs_cd cs_all 195 cq_195 mt_X11_isTaken cu_195 cu_195_0 = true := by decide +kernel
set_option maxRecDepth 100000 in
theorem ck_196_E : ab_chkE mt_prog cs_mt cs_cd cs_all 196 cq_196 mt_X11_keeps cu_196 = true := by decide +kernel
set_option maxRecDepth 100000 in
theorem ck_197_E : ab_chkE mt_prog cs_mt cs_cd cs_all 197 cq_197 mt_X11_layLine cu_197 = true := by decide +kernel
set_option maxRecDepth 100000 in
theorem ck_197_0 : ab_chkC mt_prog cs_mt cs_cd cs_all 197 cq_197 mt_X11_layLine cu_197 cu_197_0 = true := by decide +kernel
set_option maxRecDepth 100000 in
theorem ck_198_E : ab_chkE mt_prog cs_mt cs_cd cs_all 198 cq_198 mt_X11_letters cu_198 = true := by decide +kernel
set_option maxRecDepth 100000 in
theorem ck_198_0 : ab_chkC mt_prog cs_mt cs_cd cs_all 198 cq_198 mt_X11_letters cu_198 cu_198_0 = true := by decide +kernel
set_option maxRecDepth 100000 in
theorem ck_198_1 : ab_chkC mt_prog cs_mt cs_cd cs_all 198 cq_198 mt_X11_letters cu_198 cu_198_1 = true := by decide +kernel
set_option maxRecDepth 100000 in
theorem ck_198_2 : ab_chkC mt_prog cs_mt cs_cd cs_all 198 cq_198 mt_X11_letters cu_198 cu_198_2 = true := by decide +kernel
set_option maxRecDepth 100000 in
theorem ck_198_3 : ab_chkC mt_prog cs_mt cs_cd cs_all 198 cq_198 mt_X11_letters cu_198 cu_198_3 = true := by decide +kernel
set_option maxRecDepth 100000 in
theorem ck_198_4 : ab_chkC mt_prog cs_mt cs_cd cs_all 198 cq_198 mt_X11_letters cu_198 cu_198_4 = true := by decide +kernel
set_option maxRecDepth 100000 in
theorem ck_198_5 : ab_chkC mt_prog cs_mt cs_cd cs_all 198 cq_198 mt_X11_letters cu_198 cu_198_5 = true := by decide +kernel
set_option maxRecDepth 100000 in
theorem ck_198_6 : ab_chkC mt_prog cs_mt cs_cd cs_all 198 cq_198 mt_X11_letters cu_198 cu_198_6 = true := by decide +kernel
set_option maxRecDepth 100000 in
theorem ck_198_7 : ab_chkC mt_prog cs_mt cs_cd cs_all 198 cq_198 mt_X11_letters cu_198 cu_198_7 = true := by decide +kernel
set_option maxRecDepth 100000 in
theorem ck_198_8 : ab_chkC mt_prog cs_mt cs_cd cs_all 198 cq_198 mt_X11_letters cu_198 cu_198_8 = true := by decide +kernel
set_option maxRecDepth 100000 in
theorem ck_198_9 : ab_chkC mt_prog cs_mt cs_cd cs_all 198 cq_198 mt_X11_letters cu_198 cu_198_9 = true := by decide +kernel
set_option maxRecDepth 100000 in
theorem ck_198_10 : ab_chkC mt_prog cs_mt cs_cd cs_all 198 cq_198 mt_X11_letters cu_198 cu_198_10 = true := by decide +kernel
set_option maxRecDepth 100000 in
theorem ck_198_11 : ab_chkC mt_prog cs_mt cs_cd cs_all 198 cq_198 mt_X11_letters cu_198 cu_198_11 = true := by decide +kernel
set_option maxRecDepth 100000 in
theorem ck_198_12 : ab_chkC mt_prog cs_mt cs_cd cs_all 198 cq_198 mt_X11_letters cu_198 cu_198_12 = true := by decide +kernel
set_option maxRecDepth 100000 in
theorem ck_198_13 : ab_chkC mt_prog cs_mt cs_cd cs_all 198 cq_198 mt_X11_letters cu_198 cu_198_13 = true := by decide +kernel
set_option maxRecDepth 100000 in
theorem ck_198_14 : ab_chkC mt_prog cs_mt cs_cd cs_all 198 cq_198 mt_X11_letters cu_198 cu_198_14 = true := by decide +kernel
set_option maxRecDepth 100000 in
theorem ck_198_15 : ab_chkC mt_prog cs_mt cs_cd cs_all 198 cq_198 mt_X11_letters cu_198 cu_198_15 = true := by decide +kernel
set_option maxRecDepth 100000 in
theorem ck_198_16 : ab_chkC mt_prog cs_mt cs_cd cs_all 198 cq_198 mt_X11_letters cu_198 cu_198_16 = true := by decide +kernel
set_option maxRecDepth 100000 in
theorem ck_198_17 : ab_chkC mt_prog cs_mt cs_cd cs_all 198 cq_198 mt_X11_letters cu_198 cu_198_17 = true := by decide +kernel
set_option maxRecDepth 100000 in
theorem ck_199_E : ab_chkE mt_prog cs_mt cs_cd cs_all 199 cq_199 mt_X11_line cu_199 = true := by decide +kernel
set_option maxRecDepth 100000 in
theorem ck_200_E : ab_chkE mt_prog cs_mt cs_cd cs_all 200 cq_200 mt_X11_wrongAt cu_200 = true := by decide +kernel
set_option maxRecDepth 100000 in
theorem ck_200_0 : ab_chkC mt_prog cs_mt cs_cd cs_all 200 cq_200 mt_X11_wrongAt cu_200 cu_200_0 = true := by decide +kernel
set_option maxRecDepth 100000 in
theorem ck_201_E : ab_chkE mt_prog cs_mt cs_cd cs_all 201 cq_201 mt_X11_mended cu_201 = true := by decide +kernel
set_option maxRecDepth 100000 in
theorem ck_201_0 : ab_chkC mt_prog cs_mt cs_cd cs_all 201 cq_201 mt_X11_mended cu_201 cu_201_0 = true := by decide +kernel
set_option maxRecDepth 100000 in
theorem ck_202_E : ab_chkE mt_prog cs_mt cs_cd cs_all 202 cq_202 mt_X11_note cu_202 = true := by decide +kernel
set_option maxRecDepth 100000 in
theorem ck_202_0 : ab_chkC mt_prog cs_mt cs_cd cs_all 202 cq_202 mt_X11_note cu_202 cu_202_0 = true := by decide +kernel
set_option maxRecDepth 100000 in
theorem ck_203_E : ab_chkE mt_prog cs_mt cs_cd cs_all 203 cq_203 mt_X11_onBoard cu_203 = true := by decide +kernel
set_option maxRecDepth 100000 in
theorem ck_203_0 : ab_chkC mt_prog cs_mt cs_cd cs_all 203 cq_203 mt_X11_onBoard cu_203 cu_203_0 = true := by decide +kernel
set_option maxRecDepth 100000 in
theorem ck_204_E : ab_chkE mt_prog cs_mt cs_cd cs_all 204 cq_204 mt_X11_parts cu_204 = true := by decide +kernel
set_option maxRecDepth 100000 in
theorem ck_204_0 : ab_chkC mt_prog cs_mt cs_cd cs_all 204 cq_204 mt_X11_parts cu_204 cu_204_0 = true := by decide +kernel
set_option maxRecDepth 100000 in
theorem ck_204_1 : ab_chkC mt_prog cs_mt cs_cd cs_all 204 cq_204 mt_X11_parts cu_204 cu_204_1 = true := by decide +kernel
set_option maxRecDepth 100000 in
theorem ck_205_E : ab_chkE mt_prog cs_mt cs_cd cs_all 205 cq_205 mt_X11_row cu_205 = true := by decide +kernel
set_option maxRecDepth 100000 in
theorem ck_205_0 : ab_chkC mt_prog cs_mt cs_cd cs_all 205 cq_205 mt_X11_row cu_205 cu_205_0 = true := by decide +kernel
set_option maxRecDepth 100000 in
theorem ck_205_1 : ab_chkC mt_prog cs_mt cs_cd cs_all 205 cq_205 mt_X11_row cu_205 cu_205_1 = true := by decide +kernel
set_option maxRecDepth 100000 in
theorem ck_205_2 : ab_chkC mt_prog cs_mt cs_cd cs_all 205 cq_205 mt_X11_row cu_205 cu_205_2 = true := by decide +kernel
set_option maxRecDepth 100000 in
theorem ck_205_3 : ab_chkC mt_prog cs_mt cs_cd cs_all 205 cq_205 mt_X11_row cu_205 cu_205_3 = true := by decide +kernel
set_option maxRecDepth 100000 in
theorem ck_206_E : ab_chkE mt_prog cs_mt cs_cd cs_all 206 cq_206 mt_X11_says cu_206 = true := by decide +kernel
set_option maxRecDepth 100000 in
theorem ck_206_0 : ab_chkC mt_prog cs_mt cs_cd cs_all 206 cq_206 mt_X11_says cu_206 cu_206_0 = true := by decide +kernel
set_option maxRecDepth 100000 in
theorem ck_206_1 : ab_chkC mt_prog cs_mt cs_cd cs_all 206 cq_206 mt_X11_says cu_206 cu_206_1 = true := by decide +kernel
set_option maxRecDepth 100000 in
theorem ck_207_E : ab_chkE mt_prog cs_mt cs_cd cs_all 207 cq_207 mt_X11_seekSlip cu_207 = true := by decide +kernel
set_option maxRecDepth 100000 in
theorem ck_207_0 : ab_chkC mt_prog cs_mt cs_cd cs_all 207 cq_207 mt_X11_seekSlip cu_207 cu_207_0 = true := by decide +kernel
set_option maxRecDepth 100000 in
theorem ck_207_1 : ab_chkC mt_prog cs_mt cs_cd cs_all 207 cq_207 mt_X11_seekSlip cu_207 cu_207_1 = true := by decide +kernel
set_option maxRecDepth 100000 in
theorem ck_207_2 : ab_chkC mt_prog cs_mt cs_cd cs_all 207 cq_207 mt_X11_seekSlip cu_207 cu_207_2 = true := by decide +kernel
set_option maxRecDepth 100000 in
theorem ck_207_3 : ab_chkC mt_prog cs_mt cs_cd cs_all 207 cq_207 mt_X11_seekSlip cu_207 cu_207_3 = true := by decide +kernel
set_option maxRecDepth 100000 in
theorem ck_207_4 : ab_chkC mt_prog cs_mt cs_cd cs_all 207 cq_207 mt_X11_seekSlip cu_207 cu_207_4 = true := by decide +kernel
set_option maxRecDepth 100000 in
theorem ck_207_5 : ab_chkC mt_prog cs_mt cs_cd cs_all 207 cq_207 mt_X11_seekSlip cu_207 cu_207_5 = true := by decide +kernel
set_option maxRecDepth 100000 in
theorem ck_207_6 : ab_chkC mt_prog cs_mt cs_cd cs_all 207 cq_207 mt_X11_seekSlip cu_207 cu_207_6 = true := by decide +kernel
set_option maxRecDepth 100000 in
theorem ck_207_7 : ab_chkC mt_prog cs_mt cs_cd cs_all 207 cq_207 mt_X11_seekSlip cu_207 cu_207_7 = true := by decide +kernel
set_option maxRecDepth 100000 in
theorem ck_207_8 : ab_chkC mt_prog cs_mt cs_cd cs_all 207 cq_207 mt_X11_seekSlip cu_207 cu_207_8 = true := by decide +kernel
set_option maxRecDepth 100000 in
theorem ck_207_9 : ab_chkC mt_prog cs_mt cs_cd cs_all 207 cq_207 mt_X11_seekSlip cu_207 cu_207_9 = true := by decide +kernel
set_option maxRecDepth 100000 in
theorem ck_207_10 : ab_chkC mt_prog cs_mt cs_cd cs_all 207 cq_207 mt_X11_seekSlip cu_207 cu_207_10 = true := by decide +kernel
set_option maxRecDepth 100000 in
theorem ck_207_11 : ab_chkC mt_prog cs_mt cs_cd cs_all 207 cq_207 mt_X11_seekSlip cu_207 cu_207_11 = true := by decide +kernel
set_option maxRecDepth 100000 in
theorem ck_208_E : ab_chkE mt_prog cs_mt cs_cd cs_all 208 cq_208 mt_X11_settle cu_208 = true := by decide +kernel
set_option maxRecDepth 100000 in
theorem ck_208_0 : ab_chkC mt_prog cs_mt cs_cd cs_all 208 cq_208 mt_X11_settle cu_208 cu_208_0 = true := by decide +kernel
set_option maxRecDepth 100000 in
theorem ck_208_1 : ab_chkC mt_prog cs_mt cs_cd cs_all 208 cq_208 mt_X11_settle cu_208 cu_208_1 = true := by decide +kernel
set_option maxRecDepth 100000 in
theorem ck_209_E : ab_chkE mt_prog cs_mt cs_cd cs_all 209 cq_209 mt_X11_sign cu_209 = true := by decide +kernel
set_option maxRecDepth 100000 in
theorem ck_210_E : ab_chkE mt_prog cs_mt cs_cd cs_all 210 cq_210 mt_X11_slip cu_210 = true := by decide +kernel
set_option maxRecDepth 100000 in
theorem ck_211_E : ab_chkE mt_prog cs_mt cs_cd cs_all 211 cq_211 mt_X11_step cu_211 = true := by decide +kernel
set_option maxRecDepth 100000 in
theorem ck_212_E : ab_chkE mt_prog cs_mt cs_cd cs_all 212 cq_212 mt_X11_sure cu_212 = true := by decide +kernel
set_option maxRecDepth 100000 in
theorem ck_213_E : ab_chkE mt_prog cs_mt cs_cd cs_all 213 cq_213 mt_X11_sweep cu_213 = true := by decide +kernel
set_option maxRecDepth 100000 in
theorem ck_213_0 : ab_chkC mt_prog cs_mt cs_cd cs_all 213 cq_213 mt_X11_sweep cu_213 cu_213_0 = true := by decide +kernel
set_option maxRecDepth 100000 in
theorem ck_214_E : ab_chkE mt_prog cs_mt cs_cd cs_all 214 cq_214 mt_X11_tear cu_214 = true := by decide +kernel
set_option maxRecDepth 100000 in
theorem ck_215_E : ab_chkE mt_prog cs_mt cs_cd cs_all 215 cq_215 mt_X11_times cu_215 = true := by decide +kernel
set_option maxRecDepth 100000 in
theorem ck_215_0 : ab_chkC mt_prog cs_mt cs_cd cs_all 215 cq_215 mt_X11_times cu_215 cu_215_0 = true := by decide +kernel
set_option maxRecDepth 100000 in
theorem ck_216_E : ab_chkE mt_prog cs_mt cs_cd cs_all 216 cq_216 mt_X11_unbundle cu_216 = true := by decide +kernel
set_option maxRecDepth 100000 in
theorem ck_217_E : ab_chkE mt_prog cs_mt cs_cd cs_all 217 cq_217 mt_X11_ways cu_217 = true := by decide +kernel
set_option maxRecDepth 100000 in
theorem ck_218_E : ab_chkE mt_prog cs_mt cs_cd cs_all 218 cq_218 mt_X11_worthOf cu_218 = true := by decide +kernel
set_option maxRecDepth 100000 in
theorem ck_218_0 : ab_chkC mt_prog cs_mt cs_cd cs_all 218 cq_218 mt_X11_worthOf cu_218 cu_218_0 = true := by decide +kernel
set_option maxRecDepth 100000 in
theorem ck_219_E : ab_chkE mt_prog cs_mt cs_cd cs_all 219 cq_219 mt_X11_worth cu_219 = true := by decide +kernel
set_option maxRecDepth 100000 in
theorem ck_220_E : ab_chkE mt_prog cs_mt cs_cd cs_all 220 cq_220 mt_X11_write cu_220 = true := by decide +kernel
set_option maxRecDepth 100000 in
theorem ck_220_0 : ab_chkC mt_prog cs_mt cs_cd cs_all 220 cq_220 mt_X11_write cu_220 cu_220_0 = true := by decide +kernel
set_option maxRecDepth 100000 in
theorem ck_221_E : ab_chkE mt_prog cs_mt cs_cd cs_all 221 cq_221 mt_X11_wrong cu_221 = true := by decide +kernel
