/-! ===== the contracts are checked (printed by wip/safe/gen.py) ===== -/
set_option maxRecDepth 100000 in
theorem ck_132_E : ab_chkE mt_prog cs_mt cs_cd cs_all 132 cq_132 mt_X8_startFor cu_132 = true := by decide +kernel
set_option maxRecDepth 100000 in
theorem ck_133_E : ab_chkE mt_prog cs_mt cs_cd cs_all 133 cq_133 mt_X8_addAt cu_133 = true := by decide +kernel
set_option maxRecDepth 100000 in
theorem ck_133_0 : ab_chkC mt_prog cs_mt cs_cd cs_all 133 cq_133 mt_X8_addAt cu_133 cu_133_0 = true := by decide +kernel
set_option maxRecDepth 100000 in
theorem ck_134_E : ab_chkE mt_prog cs_mt cs_cd cs_all 134 cq_134 mt_X8_clearAt cu_134 = true := by decide +kernel
set_option maxRecDepth 100000 in
theorem ck_134_0 : ab_chkC mt_prog cs_mt cs_cd cs_all 134 cq_134 mt_X8_clearAt cu_134 cu_134_0 = true := by decide +kernel
set_option maxRecDepth 100000 in
theorem ck_135_E : ab_chkE mt_prog cs_mt cs_cd cs_all 135 cq_135 mt_X9_countPlain cu_135 = true := by decide +kernel
set_option maxRecDepth 100000 in
theorem ck_135_0 : ab_chkC mt_prog cs_mt cs_cd cs_all 135 cq_135 mt_X9_countPlain cu_135 cu_135_0 = true := by decide +kernel
set_option maxRecDepth 100000 in
theorem ck_135_1 : ab_chkC mt_prog cs_mt cs_cd cs_all 135 cq_135 mt_X9_countPlain cu_135 cu_135_1 = true := by decide +kernel
set_option maxRecDepth 100000 in
theorem ck_135_2 : ab_chkC mt_prog cs_mt cs_cd cs_all 135 cq_135 mt_X9_countPlain cu_135 cu_135_2 = true := by decide +kernel
set_option maxRecDepth 100000 in
theorem ck_135_3 : ab_chkC mt_prog cs_mt cs_cd cs_all 135 cq_135 mt_X9_countPlain cu_135 cu_135_3 = true := by decide +kernel
set_option maxRecDepth 100000 in
theorem ck_135_4 : ab_chkC mt_prog cs_mt cs_cd cs_all 135 cq_135 mt_X9_countPlain cu_135 cu_135_4 = true := by decide +kernel
set_option maxRecDepth 100000 in
theorem ck_135_5 : ab_chkC mt_prog cs_mt cs_cd cs_all 135 cq_135 mt_X9_countPlain cu_135 cu_135_5 = true := by decide +kernel
set_option maxRecDepth 100000 in
theorem ck_135_6 : ab_chkC mt_prog cs_mt cs_cd cs_all 135 cq_135 mt_X9_countPlain cu_135 cu_135_6 = true := by decide +kernel
set_option maxRecDepth 100000 in
theorem ck_135_7 : ab_chkC mt_prog cs_mt cs_cd cs_all 135 cq_135 mt_X9_countPlain cu_135 cu_135_7 = true := by decide +kernel
set_option maxRecDepth 100000 in
theorem ck_135_8 : ab_chkC mt_prog cs_mt cs_cd cs_all 135 cq_135 mt_X9_countPlain cu_135 cu_135_8 = true := by decide +kernel
set_option maxRecDepth 100000 in
theorem ck_135_9 : ab_chkC mt_prog cs_mt cs_cd cs_all 135 cq_135 mt_X9_countPlain cu_135 cu_135_9 = true := by decide +kernel
set_option maxRecDepth 100000 in
theorem ck_135_10 : ab_chkC mt_prog cs_mt cs_cd cs_all 135 cq_135 mt_X9_countPlain cu_135 cu_135_10 = true := by decide +kernel
set_option maxRecDepth 100000 in
theorem ck_135_11 : ab_chkC mt_prog cs_mt cs_cd cs_all 135 cq_135 mt_X9_countPlain cu_135 cu_135_11 = true := by decide +kernel
set_option maxRecDepth 100000 in
theorem ck_135_12 : ab_chkC mt_prog cs_mt cs_cd cs_all 135 cq_135 mt_X9_countPlain cu_135 cu_135_12 = true := by decide +kernel
set_option maxRecDepth 100000 in
theorem ck_135_13 : ab_chkC mt_prog cs_mt cs_cd cs_all 135 cq_135 mt_X9_countPlain cu_135 cu_135_13 = true := by decide +kernel
set_option maxRecDepth 100000 in
theorem ck_135_14 : ab_chkC mt_prog cs_mt cs_cd cs_all 135 cq_135 mt_X9_countPlain cu_135 cu_135_14 = true := by decide +kernel
set_option maxRecDepth 100000 in
theorem ck_135_15 : ab_chkC mt_prog cs_mt cs_cd cs_all 135 cq_135 mt_X9_countPlain cu_135 cu_135_15 = true := by decide +kernel
set_option maxRecDepth 100000 in
theorem ck_135_16 : ab_chkC mt_prog cs_mt cs_cd cs_all 135 cq_135 mt_X9_countPlain cu_135 cu_135_16 = true := by decide +kernel
set_option maxRecDepth 100000 in
theorem ck_135_17 : ab_chkC mt_prog cs_mt cs_cd cs_all 135 cq_135 mt_X9_countPlain cu_135 cu_135_17 = true := by decide +kernel
set_option maxRecDepth 100000 in
theorem ck_135_18 : ab_chkC mt_prog cs_mt cs_cd cs_all 135 cq_135 mt_X9_countPlain cu_135 cu_135_18 = true := by decide +kernel
set_option maxRecDepth 100000 in
theorem ck_135_19 : ab_chkC mt_prog cs_mt cs_cd cs_all 135 cq_135 mt_X9_countPlain cu_135 cu_135_19 = true := by decide +kernel
set_option maxRecDepth 100000 in
theorem ck_135_20 : ab_chkC mt_prog cs_mt cs_cd cs_all 135 cq_135 mt_X9_countPlain cu_135 cu_135_20 = true := by decide +kernel
set_option maxRecDepth 100000 in
theorem ck_135_21 : ab_chkC mt_prog cs_mt cs_cd cs_all 135 cq_135 mt_X9_countPlain cu_135 cu_135_21 = true := by decide +kernel
set_option maxRecDepth 100000 in
theorem ck_135_22 : ab_chkC mt_prog cs_mt cs_cd cs_all 135 cq_135 mt_X9_countPlain cu_135 cu_135_22 = true := by decide +kernel
set_option maxRecDepth 100000 in
theorem ck_135_23 : ab_chkC mt_prog cs_mt cs_cd cs_all 135 cq_135 mt_X9_countPlain cu_135 cu_135_23 = true := by decide +kernel
set_option maxRecDepth 100000 in
theorem ck_135_24 : ab_chkC mt_prog cs_mt cs_cd cs_all 135 cq_135 mt_X9_countPlain cu_135 cu_135_24 = true := by decide +kernel
set_option maxRecDepth 100000 in
theorem ck_135_25 : ab_chkC mt_prog cs_mt cs_cd cs_all 135 cq_135 mt_X9_countPlain cu_135 cu_135_25 = true := by decide +kernel
set_option maxRecDepth 100000 in
theorem ck_135_26 : ab_chkC mt_prog cs_mt cs_cd cs_all 135 cq_135 mt_X9_countPlain cu_135 cu_135_26 = true := by decide +kernel
set_option maxRecDepth 100000 in
theorem ck_135_27 : ab_chkC mt_prog cs_mt cs_cd cs_all 135 cq_135 mt_X9_countPlain cu_135 cu_135_27 = true := by decide +kernel
set_option maxRecDepth 100000 in
theorem ck_136_E : ab_chkE mt_prog cs_mt cs_cd cs_all 136 cq_136 mt_X8_addAt cu_136 = true := by decide +kernel
set_option maxRecDepth 100000 in
theorem ck_136_0 : ab_chkC mt_prog cs_mt cs_cd cs_all 136 cq_136 mt_X8_addAt cu_136 cu_136_0 = true := by decide +kernel
set_option maxRecDepth 100000 in
theorem ck_137_E : ab_chkE mt_prog cs_mt cs_cd cs_all 137 cq_137 mt_X8_clearAt cu_137 = true := by decide +kernel
set_option maxRecDepth 100000 in
theorem ck_137_0 : ab_chkC mt_prog cs_mt cs_cd cs_all 137 cq_137 mt_X8_clearAt cu_137 cu_137_0 = true := by decide +kernel
set_option maxRecDepth 100000 in
theorem ck_138_E : ab_chkE mt_prog cs_mt cs_cd cs_all 138 cq_138 mt_X9_countTakings cu_138 = true := by decide +kernel
set_option maxRecDepth 100000 in
theorem ck_138_0 : ab_chkC mt_prog cs_mt cs_cd cs_all 138 cq_138 mt_X9_countTakings cu_138 cu_138_0 = true := by decide +kernel
set_option maxRecDepth 100000 in
theorem ck_138_1 : ab_chkC mt_prog cs_mt cs_cd cs_all 138 cq_138 mt_X9_countTakings cu_138 cu_138_1 = true := by decide +kernel
set_option maxRecDepth 100000 in
theorem ck_138_2 : ab_chkC mt_prog cs_mt cs_cd cs_all 138 cq_138 mt_X9_countTakings cu_138 cu_138_2 = true := by decide +kernel
set_option maxRecDepth 100000 in
theorem ck_138_3 : ab_chkC mt_prog cs_mt cs_cd cs_all 138 cq_138 mt_X9_countTakings cu_138 cu_138_3 = true := by decide +kernel
set_option maxRecDepth 100000 in
theorem ck_138_4 : ab_chkC mt_prog cs_mt cs_cd cs_all 138 cq_138 mt_X9_countTakings cu_138 cu_138_4 = true := by decide +kernel
set_option maxRecDepth 100000 in
theorem ck_138_5 : ab_chkC mt_prog cs_mt cs_cd cs_all 138 cq_138 mt_X9_countTakings cu_138 cu_138_5 = true := by decide +kernel
set_option maxRecDepth 100000 in
theorem ck_138_6 : ab_chkC mt_prog cs_mt cs_cd cs_all 138 cq_138 mt_X9_countTakings cu_138 cu_138_6 = true := by decide +kernel
set_option maxRecDepth 100000 in
theorem ck_138_7 : ab_chkC mt_prog cs_mt cs_cd cs_all 138 cq_138 mt_X9_countTakings cu_138 cu_138_7 = true := by decide +kernel
set_option maxRecDepth 100000 in
theorem ck_138_8 : ab_chkC mt_prog cs_mt cs_cd cs_all 138 cq_138 mt_X9_countTakings cu_138 cu_138_8 = true := by decide +kernel
set_option maxRecDepth 100000 in
theorem ck_138_9 : ab_chkC mt_prog cs_mt cs_cd cs_all 138 cq_138 mt_X9_countTakings cu_138 cu_138_9 = true := by decide +kernel
set_option maxRecDepth 100000 in
theorem ck_138_10 : ab_chkC mt_prog cs_mt cs_cd cs_all 138 cq_138 mt_X9_countTakings cu_138 cu_138_10 = true := by decide +kernel
set_option maxRecDepth 100000 in
theorem ck_138_11 : ab_chkC mt_prog cs_mt cs_cd cs_all 138 cq_138 mt_X9_countTakings cu_138 cu_138_11 = true := by decide +kernel
set_option maxRecDepth 100000 in
theorem ck_138_12 : ab_chkC mt_prog cs_mt cs_cd cs_all 138 cq_138 mt_X9_countTakings cu_138 cu_138_12 = true := by decide +kernel
set_option maxRecDepth 100000 in
theorem ck_138_13 : ab_chkC mt_prog cs_mt cs_cd cs_all 138 cq_138 mt_X9_countTakings cu_138 cu_138_13 = true := by decide +kernel
set_option maxRecDepth 100000 in
theorem ck_138_14 : ab_chkC mt_prog cs_mt cs_cd cs_all 138 cq_138 mt_X9_countTakings cu_138 cu_138_14 = true := by decide +kernel
set_option maxRecDepth 100000 in
theorem ck_138_15 : ab_chkC mt_prog cs_mt cs_cd cs_all 138 cq_138 mt_X9_countTakings cu_138 cu_138_15 = true := by decide +kernel
set_option maxRecDepth 100000 in
theorem ck_138_16 : ab_chkC mt_prog cs_mt cs_cd cs_all 138 cq_138 mt_X9_countTakings cu_138 cu_138_16 = true := by decide +kernel
set_option maxRecDepth 100000 in
theorem ck_138_17 : ab_chkC mt_prog cs_mt cs_cd cs_all 138 cq_138 mt_X9_countTakings cu_138 cu_138_17 = true := by decide +kernel
set_option maxRecDepth 100000 in
theorem ck_138_18 : ab_chkC mt_prog cs_mt cs_cd cs_all 138 cq_138 mt_X9_countTakings cu_138 cu_138_18 = true := by decide +kernel
set_option maxRecDepth 100000 in
theorem ck_138_19 : ab_chkC mt_prog cs_mt cs_cd cs_all 138 cq_138 mt_X9_countTakings cu_138 cu_138_19 = true := by decide +kernel
set_option maxRecDepth 100000 in
theorem ck_138_20 : ab_chkC mt_prog cs_mt cs_cd cs_all 138 cq_138 mt_X9_countTakings cu_138 cu_138_20 = true := by decide +kernel
set_option maxRecDepth 100000 in
theorem ck_138_21 : ab_chkC mt_prog cs_mt cs_cd cs_all 138 cq_138 mt_X9_countTakings cu_138 cu_138_21 = true := by decide +kernel
set_option maxRecDepth 100000 in
theorem ck_138_22 : ab_chkC mt_prog cs_mt cs_cd cs_all 138 cq_138 mt_X9_countTakings cu_138 cu_138_22 = true := by decide +kernel
set_option maxRecDepth 100000 in
theorem ck_138_23 : ab_chkC mt_prog cs_mt cs_cd cs_all 138 cq_138 mt_X9_countTakings cu_138 cu_138_23 = true := by decide +kernel
set_option maxRecDepth 100000 in
theorem ck_138_24 : ab_chkC mt_prog cs_mt cs_cd cs_all 138 cq_138 mt_X9_countTakings cu_138 cu_138_24 = true := by decide +kernel
set_option maxRecDepth 100000 in
theorem ck_138_25 : ab_chkC mt_prog cs_mt cs_cd cs_all 138 cq_138 mt_X9_countTakings cu_138 cu_138_25 = true := by decide +kernel
set_option maxRecDepth 100000 in
theorem ck_138_26 : ab_chkC mt_prog cs_mt cs_cd cs_all 138 cq_138 mt_X9_countTakings cu_138 cu_138_26 = true := by decide +kernel
set_option maxRecDepth 100000 in
theorem ck_138_27 : ab_chkC mt_prog cs_mt cs_cd cs_all 138 cq_138 mt_X9_countTakings cu_138 cu_138_27 = true := by decide +kernel
set_option maxRecDepth 100000 in
theorem ck_139_E : ab_chkE mt_prog cs_mt cs_cd cs_all 139 cq_139 mt_X9_prepare cu_139 = true := by decide +kernel
set_option maxRecDepth 100000 in
theorem ck_139_0 : ab_chkC mt_prog cs_mt cs_cd cs_all 139 cq_139 mt_X9_prepare cu_139 cu_139_0 = true := by decide +kernel
set_option maxRecDepth 100000 in
theorem ck_140_E : ab_chkE mt_prog cs_mt cs_cd cs_all 140 cq_140 mt_X10_ways cu_140 = true := by decide +kernel
set_option maxRecDepth 100000 in
theorem ck_141_E : ab_chkE mt_prog cs_mt cs_cd cs_all 141 cq_141 mt_X10_worth cu_141 = true := by decide +kernel
set_option maxRecDepth 100000 in
theorem ck_142_E : ab_chkE mt_prog cs_mt cs_cd cs_all 142 cq_142 mt_X8_atMost cu_142 = true := by decide +kernel
set_option maxRecDepth 100000 in
theorem ck_142_0 : ab_chkC mt_prog cs_mt cs_cd cs_all 142 cq_142 mt_X8_atMost cu_142 cu_142_0 = true := by decide +kernel
set_option maxRecDepth 100000 in
theorem ck_143_E : ab_chkE mt_prog cs_mt cs_cd cs_all 143 cq_143 mt_X8_exactly cu_143 = true := by decide +kernel
set_option maxRecDepth 100000 in
theorem ck_144_E : ab_chkE mt_prog cs_mt cs_cd cs_all 144 cq_144 mt_X9_goes cu_144 = true := by decide +kernel
set_option maxRecDepth 100000 in
theorem ck_145_E : ab_chkE mt_prog cs_mt cs_cd cs_all 145 cq_145 mt_X9_choosePlain cu_145 = true := by decide +kernel
set_option maxRecDepth 100000 in
theorem ck_145_0 : ab_chkC mt_prog cs_mt cs_cd cs_all 145 cq_145 mt_X9_choosePlain cu_145 cu_145_0 = true := by decide +kernel
set_option maxRecDepth 100000 in
theorem ck_146_E : ab_chkE mt_prog cs_mt cs_cd cs_all 146 cq_146 mt_X8_exactly cu_146 = true := by decide +kernel
set_option maxRecDepth 100000 in
theorem ck_147_E : ab_chkE mt_prog cs_mt cs_cd cs_all 147 cq_147 mt_X9_goes cu_147 = true := by decide +kernel
set_option maxRecDepth 100000 in
theorem ck_148_E : ab_chkE mt_prog cs_mt cs_cd cs_all 148 cq_148 mt_X9_chooseTaking cu_148 = true := by decide +kernel
set_option maxRecDepth 100000 in
theorem ck_148_0 : ab_chkC mt_prog cs_mt cs_cd cs_all 148 cq_148 mt_X9_chooseTaking cu_148 cu_148_0 = true := by decide +kernel
set_option maxRecDepth 100000 in
theorem ck_148_1 : ab_chkC mt_prog cs_mt cs_cd cs_all 148 cq_148 mt_X9_chooseTaking cu_148 cu_148_1 = true := by decide +kernel
set_option maxRecDepth 100000 in
theorem ck_149_E : ab_chkE mt_prog cs_mt cs_cd cs_all 149 cq_149 mt_X9_walk cu_149 = true := by decide +kernel
set_option maxRecDepth 100000 in
theorem ck_149_0 : ab_chkC mt_prog cs_mt cs_cd cs_all 149 cq_149 mt_X9_walk cu_149 cu_149_0 = true := by decide +kernel
set_option maxRecDepth 100000 in
theorem ck_150_E : ab_chkE mt_prog cs_mt cs_cd cs_all 150 cq_150 mt_X9_findByOrder cu_150 = true := by decide +kernel
set_option maxRecDepth 100000 in
theorem ck_151_E : ab_chkE mt_prog cs_mt cs_cd cs_all 151 cq_151 mt_X9_findShortest cu_151 = true := by decide +kernel
set_option maxRecDepth 100000 in
theorem ck_151_0 : ab_chkC mt_prog cs_mt cs_cd cs_all 151 cq_151 mt_X9_findShortest cu_151 cu_151_0 = true := by decide +kernel
set_option maxRecDepth 100000 in
theorem ck_152_E : ab_chkE mt_prog cs_mt cs_cd cs_all 152 cq_152 mt_X10_write cu_152 = true := by decide +kernel
set_option maxRecDepth 100000 in
theorem ck_153_E : ab_chkE mt_prog cs_mt cs_cd cs_all 153 cq_153 mt_X10_wrong cu_153 = true := by decide +kernel
set_option maxRecDepth 100000 in
theorem ck_154_E : ab_chkE mt_prog cs_mt cs_cd cs_all 154 cq_154 mt_X11_isTaken cu_154 = true := by decide +kernel
set_option maxRecDepth 100000 in
theorem ck_154_0 : ab_chkC mt_prog cs_mt cs_cd cs_all 154 cq_154 mt_X11_isTaken cu_154 cu_154_0 = true := by decide +kernel
set_option maxRecDepth 100000 in
theorem ck_155_E : ab_chkE mt_prog cs_mt cs_cd cs_all 155 cq_155 mt_X11_worthOf cu_155 = true := by decide +kernel
set_option maxRecDepth 100000 in
theorem ck_155_0 : ab_chkC mt_prog cs_mt cs_cd cs_all 155 cq_155 mt_X11_worthOf cu_155 cu_155_0 = true := by decide +kernel
set_option maxRecDepth 100000 in
theorem ck_156_E : ab_chkE mt_prog cs_mt cs_cd cs_all 156 cq_156 mt_X11_lineWorth cu_156 = true := by decide +kernel
set_option maxRecDepth 100000 in
theorem ck_157_E : ab_chkE mt_prog cs_mt cs_cd cs_all 157 cq_157 mt_X11_ahead cu_157 = true := by decide +kernel
set_option maxRecDepth 100000 in
theorem ck_158_E : ab_chkE mt_prog cs_mt cs_cd cs_all 158 cq_158 mt_X11_asks cu_158 = true := by decide +kernel
set_option maxRecDepth 100000 in
theorem ck_159_E : ab_chkE mt_prog cs_mt cs_cd cs_all 159 cq_159 mt_X11_mayTake cu_159 = true := by decide +kernel
set_option maxRecDepth 100000 in
theorem ck_160_E : ab_chkE mt_prog cs_mt cs_cd cs_all 160 cq_160 mt_X11_mayBegin cu_160 = true := by decide +kernel
set_option maxRecDepth 100000 in
theorem ck_160_0 : ab_chkC mt_prog cs_mt cs_cd cs_all 160 cq_160 mt_X11_mayBegin cu_160 cu_160_0 = true := by decide +kernel
set_option maxRecDepth 100000 in
theorem ck_161_E : ab_chkE mt_prog cs_mt cs_cd cs_all 161 cq_161 mt_X11_keepsAll cu_161 = true := by decide +kernel
set_option maxRecDepth 100000 in
theorem ck_161_0 : ab_chkC mt_prog cs_mt cs_cd cs_all 161 cq_161 mt_X11_keepsAll cu_161 cu_161_0 = true := by decide +kernel
set_option maxRecDepth 100000 in
theorem ck_161_1 : ab_chkC mt_prog cs_mt cs_cd cs_all 161 cq_161 mt_X11_keepsAll cu_161 cu_161_1 = true := by decide +kernel
set_option maxRecDepth 100000 in
theorem ck_161_2 : ab_chkC mt_prog cs_mt cs_cd cs_all 161 cq_161 mt_X11_keepsAll cu_161 cu_161_2 = true := by decide +kernel
set_option maxRecDepth 100000 in
theorem ck_161_3 : ab_chkC mt_prog cs_mt cs_cd cs_all 161 cq_161 mt_X11_keepsAll cu_161 cu_161_3 = true := by decide +kernel
set_option maxRecDepth 100000 in
theorem ck_161_4 : ab_chkC mt_prog cs_mt cs_cd cs_all 161 cq_161 mt_X11_keepsAll cu_161 cu_161_4 = true := by decide +kernel
set_option maxRecDepth 100000 in
theorem ck_161_5 : ab_chkC mt_prog cs_mt cs_cd cs_all 161 cq_161 mt_X11_keepsAll cu_161 cu_161_5 = true := by decide +kernel
set_option maxRecDepth 100000 in
theorem ck_162_E : ab_chkE mt_prog cs_mt cs_cd cs_all 162 cq_162 mt_X11_begins cu_162 = true := by decide +kernel
set_option maxRecDepth 100000 in
theorem ck_162_0 : ab_chkC mt_prog cs_mt cs_cd cs_all 162 cq_162 mt_X11_begins cu_162 cu_162_0 = true := by decide +kernel
set_option maxRecDepth 100000 in
theorem ck_163_E : ab_chkE mt_prog cs_mt cs_cd cs_all 163 cq_163 mt_X11_blank cu_163 = true := by decide +kernel
set_option maxRecDepth 100000 in
theorem ck_164_E : ab_chkE mt_prog cs_mt cs_cd cs_all 164 cq_164 mt_X11_board cu_164 = true := by decide +kernel
set_option maxRecDepth 100000 in
theorem ck_165_E : ab_chkE mt_prog cs_mt cs_cd cs_all 165 cq_165 mt_X11_bundle cu_165 = true := by decide +kernel
set_option maxRecDepth 100000 in
theorem ck_166_E : ab_chkE mt_prog cs_mt cs_cd cs_all 166 cq_166 mt_X11_could cu_166 = true := by decide +kernel
set_option maxRecDepth 100000 in
theorem ck_167_E : ab_chkE mt_prog cs_mt cs_cd cs_all 167 cq_167 mt_X11_count cu_167 = true := by decide +kernel
set_option maxRecDepth 100000 in
theorem ck_168_E : ab_chkE mt_prog cs_mt cs_cd cs_all 168 cq_168 mt_X11_isMore cu_168 = true := by decide +kernel
set_option maxRecDepth 100000 in
theorem ck_169_E : ab_chkE mt_prog cs_mt cs_cd cs_all 169 cq_169 mt_X11_readCustom cu_169 = true := by decide +kernel
set_option maxRecDepth 100000 in
theorem ck_169_0 : ab_chkC mt_prog cs_mt cs_cd cs_all 169 cq_169 mt_X11_readCustom cu_169 cu_169_0 = true := by decide +kernel
set_option maxRecDepth 100000 in
theorem ck_169_1 : ab_chkC mt_prog cs_mt cs_cd cs_all 169 cq_169 mt_X11_readCustom cu_169 cu_169_1 = true := by decide +kernel
set_option maxRecDepth 100000 in
theorem ck_169_2 : ab_chkC mt_prog cs_mt cs_cd cs_all 169 cq_169 mt_X11_readCustom cu_169 cu_169_2 = true := by decide +kernel
set_option maxRecDepth 100000 in
theorem ck_169_3 : ab_chkC mt_prog cs_mt cs_cd cs_all 169 cq_169 mt_X11_readCustom cu_169 cu_169_3 = true := by decide +kernel
set_option maxRecDepth 100000 in
theorem ck_169_4 : ab_chkC mt_prog cs_mt cs_cd cs_all 169 cq_169 mt_X11_readCustom cu_169 cu_169_4 = true := by decide +kernel
set_option maxRecDepth 100000 in
theorem ck_169_5 : ab_chkC mt_prog cs_mt cs_cd cs_all 169 cq_169 mt_X11_readCustom cu_169 cu_169_5 = true := by decide +kernel
set_option maxRecDepth 100000 in
theorem ck_170_E : ab_chkE mt_prog cs_mt cs_cd cs_all 170 cq_170 mt_X11_custom cu_170 = true := by decide +kernel
set_option maxRecDepth 100000 in
theorem ck_171_E : ab_chkE mt_prog cs_mt cs_cd cs_all 171 cq_171 mt_X11_keepsAll cu_171 = true := by decide +kernel
set_option maxRecDepth 100000 in
theorem ck_171_0 : ab_chkC mt_prog cs_mt cs_cd cs_all 171 cq_171 mt_X11_keepsAll cu_171 cu_171_0 = true := by decide +kernel
set_option maxRecDepth 100000 in
theorem ck_171_1 : ab_chkC mt_prog cs_mt cs_cd cs_all 171 cq_171 mt_X11_keepsAll cu_171 cu_171_1 = true := by decide +kernel
set_option maxRecDepth 100000 in
theorem ck_171_2 : ab_chkC mt_prog cs_mt cs_cd cs_all 171 cq_171 mt_X11_keepsAll cu_171 cu_171_2 = true := by decide +kernel
set_option maxRecDepth 100000 in
theorem ck_171_3 : ab_chkC mt_prog cs_mt cs_cd cs_all 171 cq_171 mt_X11_keepsAll cu_171 cu_171_3 = true := by decide +kernel
set_option maxRecDepth 100000 in
theorem ck_171_4 : ab_chkC mt_prog cs_mt cs_cd cs_all 171 cq_171 mt_X11_keepsAll cu_171 cu_171_4 = true := by decide +kernel
set_option maxRecDepth 100000 in
theorem ck_171_5 : ab_chkC mt_prog cs_mt cs_cd cs_all 171 cq_171 mt_X11_keepsAll cu_171 cu_171_5 = true := by decide +kernel
