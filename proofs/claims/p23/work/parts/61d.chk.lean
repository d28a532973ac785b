/-! ===== the contracts are checked (printed by wip/safe/gen.py) ===== -/
set_option maxRecDepth 100000 in
theorem ck_172_E : ab_chkE mt_prog cs_mt cs_cd cs_all 172 cq_172 mt_X11_habitOf cu_172 = true := by decide +kernel
set_option maxRecDepth 100000 in
theorem ck_172_0 : ab_chkC mt_prog cs_mt cs_cd cs_all 172 cq_172 mt_X11_habitOf cu_172 cu_172_0 = true := by decide +kernel
set_option maxRecDepth 100000 in
theorem ck_172_1 : ab_chkC mt_prog cs_mt cs_cd cs_all 172 cq_172 mt_X11_habitOf cu_172 cu_172_1 = true := by decide +kernel
set_option maxRecDepth 100000 in
theorem ck_173_E : ab_chkE mt_prog cs_mt cs_cd cs_all 173 cq_173 mt_X11_mix cu_173 = true := by decide +kernel
set_option maxRecDepth 100000 in
theorem ck_174_E : ab_chkE mt_prog cs_mt cs_cd cs_all 174 cq_174 mt_X11_mixCustoms cu_174 = true := by decide +kernel
set_option maxRecDepth 100000 in
theorem ck_174_0 : ab_chkC mt_prog cs_mt cs_cd cs_all 174 cq_174 mt_X11_mixCustoms cu_174 cu_174_0 = true := by decide +kernel
set_option maxRecDepth 100000 in
theorem ck_175_E : ab_chkE mt_prog cs_mt cs_cd cs_all 175 cq_175 mt_X11_digest cu_175 = true := by decide +kernel
set_option maxRecDepth 100000 in
theorem ck_175_0 : ab_chkC mt_prog cs_mt cs_cd cs_all 175 cq_175 mt_X11_digest cu_175 cu_175_0 = true := by decide +kernel
set_option maxRecDepth 100000 in
theorem ck_175_1 : ab_chkC mt_prog cs_mt cs_cd cs_all 175 cq_175 mt_X11_digest cu_175 cu_175_1 = true := by decide +kernel
set_option maxRecDepth 100000 in
theorem ck_175_2 : ab_chkC mt_prog cs_mt cs_cd cs_all 175 cq_175 mt_X11_digest cu_175 cu_175_2 = true := by decide +kernel
set_option maxRecDepth 100000 in
theorem ck_175_3 : ab_chkC mt_prog cs_mt cs_cd cs_all 175 cq_175 mt_X11_digest cu_175 cu_175_3 = true := by decide +kernel
set_option maxRecDepth 100000 in
theorem ck_175_4 : ab_chkC mt_prog cs_mt cs_cd cs_all 175 cq_175 mt_X11_digest cu_175 cu_175_4 = true := by decide +kernel
set_option maxRecDepth 100000 in
theorem ck_175_5 : ab_chkC mt_prog cs_mt cs_cd cs_all 175 cq_175 mt_X11_digest cu_175 cu_175_5 = true := by decide +kernel
set_option maxRecDepth 100000 in
theorem ck_175_6 : ab_chkC mt_prog cs_mt cs_cd cs_all 175 cq_175 mt_X11_digest cu_175 cu_175_6 = true := by decide +kernel
set_option maxRecDepth 100000 in
theorem ck_176_E : ab_chkE mt_prog cs_mt cs_cd cs_all 176 cq_176 mt_X11_firstStep cu_176 = true := by decide +kernel
set_option maxRecDepth 100000 in
theorem ck_176_0 : ab_chkC mt_prog cs_mt cs_cd cs_all 176 cq_176 mt_X11_firstStep cu_176 cu_176_0 = true := by decide +kernel
set_option maxRecDepth 100000 in
theorem ck_176_1 : ab_chkC mt_prog cs_mt cs_cd cs_all 176 cq_176 mt_X11_firstStep cu_176 cu_176_1 = true := by decide +kernel
set_option maxRecDepth 100000 in
theorem ck_176_2 : ab_chkC mt_prog cs_mt cs_cd cs_all 176 cq_176 mt_X11_firstStep cu_176 cu_176_2 = true := by decide +kernel
set_option maxRecDepth 100000 in
theorem ck_176_3 : ab_chkC mt_prog cs_mt cs_cd cs_all 176 cq_176 mt_X11_firstStep cu_176 cu_176_3 = true := by decide +kernel
set_option maxRecDepth 100000 in
theorem ck_177_E : ab_chkE mt_prog cs_mt cs_cd cs_all 177 cq_177 mt_X11_good cu_177 = true := by decide +kernel
set_option maxRecDepth 100000 in
theorem ck_178_E : ab_chkE mt_prog cs_mt cs_cd cs_all 178 cq_178 mt_X11_habit cu_178 = true := by decide +kernel
set_option maxRecDepth 100000 in
theorem ck_179_E : ab_chkE mt_prog cs_mt cs_cd cs_all 179 cq_179 mt_X11_hands cu_179 = true := by decide +kernel
set_option maxRecDepth 100000 in
theorem ck_179_0 : ab_chkC mt_prog cs_mt cs_cd cs_all 179 cq_179 mt_X11_hands cu_179 cu_179_0 = true := by decide +kernel
set_option maxRecDepth 100000 in
theorem ck_179_1 : ab_chkC mt_prog cs_mt cs_cd cs_all 179 cq_179 mt_X11_hands cu_179 cu_179_1 = true := by decide +kernel
set_option maxRecDepth 100000 in
theorem ck_180_E : ab_chkE mt_prog cs_mt cs_cd cs_all 180 cq_180 mt_X11_holds cu_180 = true := by decide +kernel
set_option maxRecDepth 100000 in
theorem ck_180_0 : ab_chkC mt_prog cs_mt cs_cd cs_all 180 cq_180 mt_X11_holds cu_180 cu_180_0 = true := by decide +kernel
set_option maxRecDepth 100000 in
theorem ck_181_E : ab_chkE mt_prog cs_mt cs_cd cs_all 181 cq_181 mt_X11_putRight cu_181 = true := by decide +kernel
set_option maxRecDepth 100000 in
theorem ck_181_0 : ab_chkC mt_prog cs_mt cs_cd cs_all 181 cq_181 mt_X11_putRight cu_181 cu_181_0 = true := by decide +kernel
set_option maxRecDepth 100000 in
theorem ck_181_1 : ab_chkC mt_prog cs_mt cs_cd cs_all 181 cq_181 mt_X11_putRight cu_181 cu_181_1 = true := by decide +kernel
set_option maxRecDepth 100000 in
theorem ck_182_E : ab_chkE mt_prog cs_mt cs_cd cs_all 182 cq_182 mt_X11_isTaken cu_182 = true := by decide +kernel
set_option maxRecDepth 100000 in
theorem ck_182_0 : ab_chkC mt_prog cs_mt cs_cd cs_all 182 cq_182 mt_X11_isTaken cu_182 cu_182_0 = true := by decide +kernel
set_option maxRecDepth 100000 in
theorem ck_183_E : ab_chkE mt_prog cs_mt cs_cd cs_all 183 cq_183 mt_X11_worthOf cu_183 = true := by decide +kernel
set_option maxRecDepth 100000 in
theorem ck_183_0 : ab_chkC mt_prog cs_mt cs_cd cs_all 183 cq_183 mt_X11_worthOf cu_183 cu_183_0 = true := by decide +kernel
set_option maxRecDepth 100000 in
theorem ck_184_E : ab_chkE mt_prog cs_mt cs_cd cs_all 184 cq_184 mt_X11_isBy cu_184 = true := by decide +kernel
set_option maxRecDepth 100000 in
theorem ck_185_E : ab_chkE mt_prog cs_mt cs_cd cs_all 185 cq_185 mt_X11_putRight cu_185 = true := by decide +kernel
set_option maxRecDepth 100000 in
theorem ck_185_0 : ab_chkC mt_prog cs_mt cs_cd cs_all 185 cq_185 mt_X11_putRight cu_185 cu_185_0 = true := by decide +kernel
set_option maxRecDepth 100000 in
theorem ck_185_1 : ab_chkC mt_prog cs_mt cs_cd cs_all 185 cq_185 mt_X11_putRight cu_185 cu_185_1 = true := by decide +kernel
set_option maxRecDepth 100000 in
theorem ck_186_E : ab_chkE mt_prog cs_mt cs_cd cs_all 186 cq_186 mt_X11_isBy cu_186 = true := by decide +kernel
set_option maxRecDepth 100000 in
theorem ck_187_E : ab_chkE mt_prog cs_mt cs_cd cs_all 187 cq_187 mt_X11_putRight cu_187 = true := by decide +kernel
set_option maxRecDepth 100000 in
theorem ck_187_0 : ab_chkC mt_prog cs_mt cs_cd cs_all 187 cq_187 mt_X11_putRight cu_187 cu_187_0 = true := by decide +kernel
set_option maxRecDepth 100000 in
theorem ck_187_1 : ab_chkC mt_prog cs_mt cs_cd cs_all 187 cq_187 mt_X11_putRight cu_187 cu_187_1 = true := by decide +kernel
set_option maxRecDepth 100000 in
theorem ck_188_E : ab_chkE mt_prog cs_mt cs_cd cs_all 188 cq_188 mt_X11_isBy cu_188 = true := by decide +kernel
set_option maxRecDepth 100000 in
theorem ck_189_E : ab_chkE mt_prog cs_mt cs_cd cs_all 189 cq_189 mt_X11_isTaken cu_189 = true := by decide +kernel
set_option maxRecDepth 100000 in
theorem ck_189_0 : ab_chkC mt_prog cs_mt cs_cd cs_all 189 cq_189 mt_X11_isTaken cu_189 cu_189_0 = true := by decide +kernel
set_option maxRecDepth 100000 in
theorem ck_190_E : ab_chkE mt_prog cs_mt cs_cd cs_all 190 cq_190 mt_X11_keeps cu_190 = true := by decide +kernel
set_option maxRecDepth 100000 in
theorem ck_191_E : ab_chkE mt_prog cs_mt cs_cd cs_all 191 cq_191 mt_X11_layLine cu_191 = true := by decide +kernel
set_option maxRecDepth 100000 in
theorem ck_191_0 : ab_chkC mt_prog cs_mt cs_cd cs_all 191 cq_191 mt_X11_layLine cu_191 cu_191_0 = true := by decide +kernel
set_option maxRecDepth 100000 in
theorem ck_192_E : ab_chkE mt_prog cs_mt cs_cd cs_all 192 cq_192 mt_X11_letters cu_192 = true := by decide +kernel
set_option maxRecDepth 100000 in
theorem ck_192_0 : ab_chkC mt_prog cs_mt cs_cd cs_all 192 cq_192 mt_X11_letters cu_192 cu_192_0 = true := by decide +kernel
set_option maxRecDepth 100000 in
theorem ck_192_1 : ab_chkC mt_prog cs_mt cs_cd cs_all 192 cq_192 mt_X11_letters cu_192 cu_192_1 = true := by decide +kernel
set_option maxRecDepth 100000 in
theorem ck_192_2 : ab_chkC mt_prog cs_mt cs_cd cs_all 192 cq_192 mt_X11_letters cu_192 cu_192_2 = true := by decide +kernel
set_option maxRecDepth 100000 in
theorem ck_192_3 : ab_chkC mt_prog cs_mt cs_cd cs_all 192 cq_192 mt_X11_letters cu_192 cu_192_3 = true := by decide +kernel
set_option maxRecDepth 100000 in
theorem ck_192_4 : ab_chkC mt_prog cs_mt cs_cd cs_all 192 cq_192 mt_X11_letters cu_192 cu_192_4 = true := by decide +kernel
set_option maxRecDepth 100000 in
theorem ck_192_5 : ab_chkC mt_prog cs_mt cs_cd cs_all 192 cq_192 mt_X11_letters cu_192 cu_192_5 = true := by decide +kernel
set_option maxRecDepth 100000 in
theorem ck_192_6 : ab_chkC mt_prog cs_mt cs_cd cs_all 192 cq_192 mt_X11_letters cu_192 cu_192_6 = true := by decide +kernel
set_option maxRecDepth 100000 in
theorem ck_192_7 : ab_chkC mt_prog cs_mt cs_cd cs_all 192 cq_192 mt_X11_letters cu_192 cu_192_7 = true := by decide +kernel
set_option maxRecDepth 100000 in
theorem ck_192_8 : ab_chkC mt_prog cs_mt cs_cd cs_all 192 cq_192 mt_X11_letters cu_192 cu_192_8 = true := by decide +kernel
set_option maxRecDepth 100000 in
theorem ck_192_9 : ab_chkC mt_prog cs_mt cs_cd cs_all 192 cq_192 mt_X11_letters cu_192 cu_192_9 = true := by decide +kernel
set_option maxRecDepth 100000 in
theorem ck_192_10 : ab_chkC mt_prog cs_mt cs_cd cs_all 192 cq_192 mt_X11_letters cu_192 cu_192_10 = true := by decide +kernel
set_option maxRecDepth 100000 in
theorem ck_192_11 : ab_chkC mt_prog cs_mt cs_cd cs_all 192 cq_192 mt_X11_letters cu_192 cu_192_11 = true := by decide +kernel
set_option maxRecDepth 100000 in
theorem ck_192_12 : ab_chkC mt_prog cs_mt cs_cd cs_all 192 cq_192 mt_X11_letters cu_192 cu_192_12 = true := by decide +kernel
set_option maxRecDepth 100000 in
theorem ck_192_13 : ab_chkC mt_prog cs_mt cs_cd cs_all 192 cq_192 mt_X11_letters cu_192 cu_192_13 = true := by decide +kernel
set_option maxRecDepth 100000 in
theorem ck_192_14 : ab_chkC mt_prog cs_mt cs_cd cs_all 192 cq_192 mt_X11_letters cu_192 cu_192_14 = true := by decide +kernel
set_option maxRecDepth 100000 in
theorem ck_192_15 : ab_chkC mt_prog cs_mt cs_cd cs_all 192 cq_192 mt_X11_letters cu_192 cu_192_15 = true := by decide +kernel
set_option maxRecDepth 100000 in
theorem ck_192_16 : ab_chkC mt_prog cs_mt cs_cd cs_all 192 cq_192 mt_X11_letters cu_192 cu_192_16 = true := by decide +kernel
set_option maxRecDepth 100000 in
theorem ck_192_17 : ab_chkC mt_prog cs_mt cs_cd cs_all 192 cq_192 mt_X11_letters cu_192 cu_192_17 = true := by decide +kernel
set_option maxRecDepth 100000 in
theorem ck_193_E : ab_chkE mt_prog cs_mt cs_cd cs_all 193 cq_193 mt_X11_line cu_193 = true := by decide +kernel
set_option maxRecDepth 100000 in
theorem ck_194_E : ab_chkE mt_prog cs_mt cs_cd cs_all 194 cq_194 mt_X11_wrongAt cu_194 = true := by decide +kernel
set_option maxRecDepth 100000 in
theorem ck_194_0 : ab_chkC mt_prog cs_mt cs_cd cs_all 194 cq_194 mt_X11_wrongAt cu_194 cu_194_0 = true := by decide +kernel
set_option maxRecDepth 100000 in
theorem ck_195_E : ab_chkE mt_prog cs_mt cs_cd cs_all 195 cq_195 mt_X11_mended cu_195 = true := by decide +kernel
set_option maxRecDepth 100000 in
theorem ck_195_0 : ab_chkC mt_prog cs_mt cs_cd cs_all 195 cq_195 mt_X11_mended cu_195 cu_195_0 = true := by decide +kernel
set_option maxRecDepth 100000 in
theorem ck_196_E : ab_chkE mt_prog cs_mt cs_cd cs_all 196 cq_196 mt_X11_note cu_196 = true := by decide +kernel
set_option maxRecDepth 100000 in
theorem ck_196_0 : ab_chkC mt_prog cs_mt cs_cd cs_all 196 cq_196 mt_X11_note cu_196 cu_196_0 = true := by decide +kernel
set_option maxRecDepth 100000 in
theorem ck_197_E : ab_chkE mt_prog cs_mt cs_cd cs_all 197 cq_197 mt_X11_onBoard cu_197 = true := by decide +kernel
set_option maxRecDepth 100000 in
theorem ck_197_0 : ab_chkC mt_prog cs_mt cs_cd cs_all 197 cq_197 mt_X11_onBoard cu_197 cu_197_0 = true := by decide +kernel
set_option maxRecDepth 100000 in
theorem ck_198_E : ab_chkE mt_prog cs_mt cs_cd cs_all 198 cq_198 mt_X11_row cu_198 = true := by decide +kernel
set_option maxRecDepth 100000 in
theorem ck_198_0 : ab_chkC mt_prog cs_mt cs_cd cs_all 198 cq_198 mt_X11_row cu_198 cu_198_0 = true := by decide +kernel
set_option maxRecDepth 100000 in
theorem ck_198_1 : ab_chkC mt_prog cs_mt cs_cd cs_all 198 cq_198 mt_X11_row cu_198 cu_198_1 = true := by decide +kernel
set_option maxRecDepth 100000 in
theorem ck_198_2 : ab_chkC mt_prog cs_mt cs_cd cs_all 198 cq_198 mt_X11_row cu_198 cu_198_2 = true := by decide +kernel
set_option maxRecDepth 100000 in
theorem ck_198_3 : ab_chkC mt_prog cs_mt cs_cd cs_all 198 cq_198 mt_X11_row cu_198 cu_198_3 = true := by decide +kernel
set_option maxRecDepth 100000 in
theorem ck_199_E : ab_chkE mt_prog cs_mt cs_cd cs_all 199 cq_199 mt_X11_says cu_199 = true := by decide +kernel
set_option maxRecDepth 100000 in
theorem ck_199_0 : ab_chkC mt_prog cs_mt cs_cd cs_all 199 cq_199 mt_X11_says cu_199 cu_199_0 = true := by decide +kernel
set_option maxRecDepth 100000 in
theorem ck_199_1 : ab_chkC mt_prog cs_mt cs_cd cs_all 199 cq_199 mt_X11_says cu_199 cu_199_1 = true := by decide +kernel
set_option maxRecDepth 100000 in
theorem ck_200_E : ab_chkE mt_prog cs_mt cs_cd cs_all 200 cq_200 mt_X11_seekSlip cu_200 = true := by decide +kernel
set_option maxRecDepth 100000 in
theorem ck_200_0 : ab_chkC mt_prog cs_mt cs_cd cs_all 200 cq_200 mt_X11_seekSlip cu_200 cu_200_0 = true := by decide +kernel
set_option maxRecDepth 100000 in
theorem ck_200_1 : ab_chkC mt_prog cs_mt cs_cd cs_all 200 cq_200 mt_X11_seekSlip cu_200 cu_200_1 = true := by decide +kernel
set_option maxRecDepth 100000 in
theorem ck_200_2 : ab_chkC mt_prog cs_mt cs_cd cs_all 200 cq_200 mt_X11_seekSlip cu_200 cu_200_2 = true := by decide +kernel
set_option maxRecDepth 100000 in
theorem ck_200_3 : ab_chkC mt_prog cs_mt cs_cd cs_all 200 cq_200 mt_X11_seekSlip cu_200 cu_200_3 = true := by decide +kernel
set_option maxRecDepth 100000 in
theorem ck_200_4 : ab_chkC mt_prog cs_mt cs_cd cs_all 200 cq_200 mt_X11_seekSlip cu_200 cu_200_4 = true := by decide +kernel
set_option maxRecDepth 100000 in
theorem ck_200_5 : ab_chkC mt_prog cs_mt cs_cd cs_all 200 cq_200 mt_X11_seekSlip cu_200 cu_200_5 = true := by decide +kernel
set_option maxRecDepth 100000 in
theorem ck_200_6 : ab_chkC mt_prog cs_mt cs_cd cs_all 200 cq_200 mt_X11_seekSlip cu_200 cu_200_6 = true := by decide +kernel
set_option maxRecDepth 100000 in
theorem ck_200_7 : ab_chkC mt_prog cs_mt cs_cd cs_all 200 cq_200 mt_X11_seekSlip cu_200 cu_200_7 = true := by decide +kernel
set_option maxRecDepth 100000 in
theorem ck_200_8 : ab_chkC mt_prog cs_mt cs_cd cs_all 200 cq_200 mt_X11_seekSlip cu_200 cu_200_8 = true := by decide +kernel
set_option maxRecDepth 100000 in
theorem ck_200_9 : ab_chkC mt_prog cs_mt cs_cd cs_all 200 cq_200 mt_X11_seekSlip cu_200 cu_200_9 = true := by decide +kernel
set_option maxRecDepth 100000 in
theorem ck_200_10 : ab_chkC mt_prog cs_mt cs_cd cs_all 200 cq_200 mt_X11_seekSlip cu_200 cu_200_10 = true := by decide +kernel
set_option maxRecDepth 100000 in
theorem ck_200_11 : ab_chkC mt_prog cs_mt cs_cd cs_all 200 cq_200 mt_X11_seekSlip cu_200 cu_200_11 = true := by decide +kernel
set_option maxRecDepth 100000 in
theorem ck_201_E : ab_chkE mt_prog cs_mt cs_cd cs_all 201 cq_201 mt_X11_settle cu_201 = true := by decide +kernel
set_option maxRecDepth 100000 in
theorem ck_201_0 : ab_chkC mt_prog cs_mt cs_cd cs_all 201 cq_201 mt_X11_settle cu_201 cu_201_0 = true := by decide +kernel
set_option maxRecDepth 100000 in
theorem ck_201_1 : ab_chkC mt_prog cs_mt cs_cd cs_all 201 cq_201 mt_X11_settle cu_201 cu_201_1 = true := by decide +kernel
set_option maxRecDepth 100000 in
theorem ck_202_E : ab_chkE mt_prog cs_mt cs_cd cs_all 202 cq_202 mt_X11_sign cu_202 = true := by decide +kernel
set_option maxRecDepth 100000 in
theorem ck_203_E : ab_chkE mt_prog cs_mt cs_cd cs_all 203 cq_203 mt_X11_slip cu_203 = true := by decide +kernel
set_option maxRecDepth 100000 in
theorem ck_204_E : ab_chkE mt_prog cs_mt cs_cd cs_all 204 cq_204 mt_X11_step cu_204 = true := by decide +kernel
set_option maxRecDepth 100000 in
theorem ck_205_E : ab_chkE mt_prog cs_mt cs_cd cs_all 205 cq_205 mt_X11_sure cu_205 = true := by decide +kernel
set_option maxRecDepth 100000 in
theorem ck_206_E : ab_chkE mt_prog cs_mt cs_cd cs_all 206 cq_206 mt_X11_sweep cu_206 = true := by decide +kernel
set_option maxRecDepth 100000 in
theorem ck_206_0 : ab_chkC mt_prog cs_mt cs_cd cs_all 206 cq_206 mt_X11_sweep cu_206 cu_206_0 = true := by decide +kernel
set_option maxRecDepth 100000 in
theorem ck_207_E : ab_chkE mt_prog cs_mt cs_cd cs_all 207 cq_207 mt_X11_tear cu_207 = true := by decide +kernel
set_option maxRecDepth 100000 in
theorem ck_208_E : ab_chkE mt_prog cs_mt cs_cd cs_all 208 cq_208 mt_X11_unbundle cu_208 = true := by decide +kernel
set_option maxRecDepth 100000 in
theorem ck_209_E : ab_chkE mt_prog cs_mt cs_cd cs_all 209 cq_209 mt_X11_ways cu_209 = true := by decide +kernel
set_option maxRecDepth 100000 in
theorem ck_210_E : ab_chkE mt_prog cs_mt cs_cd cs_all 210 cq_210 mt_X11_worthOf cu_210 = true := by decide +kernel
set_option maxRecDepth 100000 in
theorem ck_210_0 : ab_chkC mt_prog cs_mt cs_cd cs_all 210 cq_210 mt_X11_worthOf cu_210 cu_210_0 = true := by decide +kernel
set_option maxRecDepth 100000 in
theorem ck_211_E : ab_chkE mt_prog cs_mt cs_cd cs_all 211 cq_211 mt_X11_worth cu_211 = true := by decide +kernel
set_option maxRecDepth 100000 in
theorem ck_212_E : ab_chkE mt_prog cs_mt cs_cd cs_all 212 cq_212 mt_X11_write cu_212 = true := by decide +kernel
set_option maxRecDepth 100000 in
theorem ck_212_0 : ab_chkC mt_prog cs_mt cs_cd cs_all 212 cq_212 mt_X11_write cu_212 cu_212_0 = true := by decide +kernel
set_option maxRecDepth 100000 in
theorem ck_213_E : ab_chkE mt_prog cs_mt cs_cd cs_all 213 cq_213 mt_X11_wrong cu_213 = true := by decide +kernel
