/-! ===== the contracts are checked (printed by wip/safe/gen.py) ===== -/
set_option maxRecDepth 100000 in
theorem ck_136_E : ab_chkE mt_prog cs_mt cs_cd cs_all 136 cq_136 mt_X8_atMost cu_136 = true := by decide +kernel
set_option maxRecDepth 100000 in
theorem ck_136_0 : ab_chkC mt_prog cs_mt cs_cd cs_all 136 cq_136 mt_X8_atMost cu_136 cu_136_0 = true := by decide +kernel
set_option maxRecDepth 100000 in
theorem ck_137_E : ab_chkE mt_prog cs_mt cs_cd cs_all 137 cq_137 mt_X9_inAll cu_137 = true := by decide +kernel
set_option maxRecDepth 100000 in
theorem ck_138_E : ab_chkE mt_prog cs_mt cs_cd cs_all 138 cq_138 mt_X8_startFor cu_138 = true := by decide +kernel
set_option maxRecDepth 100000 in
theorem ck_139_E : ab_chkE mt_prog cs_mt cs_cd cs_all 139 cq_139 mt_X8_addAt cu_139 = true := by decide +kernel
set_option maxRecDepth 100000 in
theorem ck_139_0 : ab_chkC mt_prog cs_mt cs_cd cs_all 139 cq_139 mt_X8_addAt cu_139 cu_139_0 = true := by decide +kernel
set_option maxRecDepth 100000 in
theorem ck_140_E : ab_chkE mt_prog cs_mt cs_cd cs_all 140 cq_140 mt_X8_clearAt cu_140 = true := by decide +kernel
set_option maxRecDepth 100000 in
theorem ck_140_0 : ab_chkC mt_prog cs_mt cs_cd cs_all 140 cq_140 mt_X8_clearAt cu_140 cu_140_0 = true := by decide +kernel
set_option maxRecDepth 100000 in
theorem ck_141_E : ab_chkE mt_prog cs_mt cs_cd cs_all 141 cq_141 mt_X9_countPlain cu_141 = true := by decide +kernel
set_option maxRecDepth 100000 in
theorem ck_141_0 : ab_chkC mt_prog cs_mt cs_cd cs_all 141 cq_141 mt_X9_countPlain cu_141 cu_141_0 = true := by decide +kernel
set_option maxRecDepth 100000 in
theorem ck_141_1 : ab_chkC mt_prog cs_mt cs_cd cs_all 141 cq_141 mt_X9_countPlain cu_141 cu_141_1 = true := by decide +kernel
set_option maxRecDepth 100000 in
theorem ck_141_2 : ab_chkC mt_prog cs_mt cs_cd cs_all 141 cq_141 mt_X9_countPlain cu_141 cu_141_2 = true := by decide +kernel
set_option maxRecDepth 100000 in
theorem ck_141_3 : ab_chkC mt_prog cs_mt cs_cd cs_all 141 cq_141 mt_X9_countPlain cu_141 cu_141_3 = true := by decide +kernel
set_option maxRecDepth 100000 in
theorem ck_141_4 : ab_chkC mt_prog cs_mt cs_cd cs_all 141 cq_141 mt_X9_countPlain cu_141 cu_141_4 = true := by decide +kernel
set_option maxRecDepth 100000 in
theorem ck_141_5 : ab_chkC mt_prog cs_mt cs_cd cs_all 141 cq_141 mt_X9_countPlain cu_141 cu_141_5 = true := by decide +kernel
set_option maxRecDepth 100000 in
theorem ck_141_6 : ab_chkC mt_prog cs_mt cs_cd cs_all 141 cq_141 mt_X9_countPlain cu_141 cu_141_6 = true := by decide +kernel
set_option maxRecDepth 100000 in
theorem ck_141_7 : ab_chkC mt_prog cs_mt cs_cd cs_all 141 cq_141 mt_X9_countPlain cu_141 cu_141_7 = true := by decide +kernel
set_option maxRecDepth 100000 in
theorem ck_141_8 : ab_chkC mt_prog cs_mt cs_cd cs_all 141 cq_141 mt_X9_countPlain cu_141 cu_141_8 = true := by decide +kernel
set_option maxRecDepth 100000 in
theorem ck_141_9 : ab_chkC mt_prog cs_mt cs_cd cs_all 141 cq_141 mt_X9_countPlain cu_141 cu_141_9 = true := by decide +kernel
set_option maxRecDepth 100000 in
theorem ck_141_10 : ab_chkC mt_prog cs_mt cs_cd cs_all 141 cq_141 mt_X9_countPlain cu_141 cu_141_10 = true := by decide +kernel
set_option maxRecDepth 100000 in
theorem ck_141_11 : ab_chkC mt_prog cs_mt cs_cd cs_all 141 cq_141 mt_X9_countPlain cu_141 cu_141_11 = true := by decide +kernel
set_option maxRecDepth 100000 in
theorem ck_141_12 : ab_chkC mt_prog cs_mt cs_cd cs_all 141 cq_141 mt_X9_countPlain cu_141 cu_141_12 = true := by decide +kernel
set_option maxRecDepth 100000 in
theorem ck_141_13 : ab_chkC mt_prog cs_mt cs_cd cs_all 141 cq_141 mt_X9_countPlain cu_141 cu_141_13 = true := by decide +kernel
set_option maxRecDepth 100000 in
theorem ck_141_14 : ab_chkC mt_prog cs_mt cs_cd cs_all 141 cq_141 mt_X9_countPlain cu_141 cu_141_14 = true := by decide +kernel
set_option maxRecDepth 100000 in
theorem ck_141_15 : ab_chkC mt_prog cs_mt cs_cd cs_all 141 cq_141 mt_X9_countPlain cu_141 cu_141_15 = true := by decide +kernel
set_option maxRecDepth 100000 in
theorem ck_141_16 : ab_chkC mt_prog cs_mt cs_cd cs_all 141 cq_141 mt_X9_countPlain cu_141 cu_141_16 = true := by decide +kernel
set_option maxRecDepth 100000 in
theorem ck_141_17 : ab_chkC mt_prog cs_mt cs_cd cs_all 141 cq_141 mt_X9_countPlain cu_141 cu_141_17 = true := by decide +kernel
set_option maxRecDepth 100000 in
theorem ck_141_18 : ab_chkC mt_prog cs_mt cs_cd cs_all 141 cq_141 mt_X9_countPlain cu_141 cu_141_18 = true := by decide +kernel
set_option maxRecDepth 100000 in
theorem ck_141_19 : ab_chkC mt_prog cs_mt cs_cd cs_all 141 cq_141 mt_X9_countPlain cu_141 cu_141_19 = true := by decide +kernel
set_option maxRecDepth 100000 in
theorem ck_141_20 : ab_chkC mt_prog cs_mt cs_cd cs_all 141 cq_141 mt_X9_countPlain cu_141 cu_141_20 = true := by decide +kernel
set_option maxRecDepth 100000 in
theorem ck_141_21 : ab_chkC mt_prog cs_mt cs_cd cs_all 141 cq_141 mt_X9_countPlain cu_141 cu_141_21 = true := by decide +kernel
set_option maxRecDepth 100000 in
theorem ck_141_22 : ab_chkC mt_prog cs_mt cs_cd cs_all 141 cq_141 mt_X9_countPlain cu_141 cu_141_22 = true := by decide +kernel
set_option maxRecDepth 100000 in
theorem ck_141_23 : ab_chkC mt_prog cs_mt cs_cd cs_all 141 cq_141 mt_X9_countPlain cu_141 cu_141_23 = true := by decide +kernel
set_option maxRecDepth 100000 in
theorem ck_141_24 : ab_chkC mt_prog cs_mt cs_cd cs_all 141 cq_141 mt_X9_countPlain cu_141 cu_141_24 = true := by decide +kernel
set_option maxRecDepth 100000 in
theorem ck_141_25 : ab_chkC mt_prog cs_mt cs_cd cs_all 141 cq_141 mt_X9_countPlain cu_141 cu_141_25 = true := by decide +kernel
set_option maxRecDepth 100000 in
theorem ck_141_26 : ab_chkC mt_prog cs_mt cs_cd cs_all 141 cq_141 mt_X9_countPlain cu_141 cu_141_26 = true := by decide +kernel
set_option maxRecDepth 100000 in
theorem ck_141_27 : ab_chkC mt_prog cs_mt cs_cd cs_all 141 cq_141 mt_X9_countPlain cu_141 cu_141_27 = true := by decide +kernel
set_option maxRecDepth 100000 in
theorem ck_142_E : ab_chkE mt_prog cs_mt cs_cd cs_all 142 cq_142 mt_X8_addAt cu_142 = true := by decide +kernel
set_option maxRecDepth 100000 in
theorem ck_142_0 : ab_chkC mt_prog cs_mt cs_cd cs_all 142 cq_142 mt_X8_addAt cu_142 cu_142_0 = true := by decide +kernel
set_option maxRecDepth 100000 in
theorem ck_143_E : ab_chkE mt_prog cs_mt cs_cd cs_all 143 cq_143 mt_X8_clearAt cu_143 = true := by decide +kernel
set_option maxRecDepth 100000 in
theorem ck_143_0 : ab_chkC mt_prog cs_mt cs_cd cs_all 143 cq_143 mt_X8_clearAt cu_143 cu_143_0 = true := by decide +kernel
set_option maxRecDepth 100000 in
theorem ck_144_E : ab_chkE mt_prog cs_mt cs_cd cs_all 144 cq_144 mt_X9_countTakings cu_144 = true := by decide +kernel
set_option maxRecDepth 100000 in
theorem ck_144_0 : ab_chkC mt_prog cs_mt cs_cd cs_all 144 cq_144 mt_X9_countTakings cu_144 cu_144_0 = true := by decide +kernel
set_option maxRecDepth 100000 in
theorem ck_144_1 : ab_chkC mt_prog cs_mt cs_cd cs_all 144 cq_144 mt_X9_countTakings cu_144 cu_144_1 = true := by decide +kernel
set_option maxRecDepth 100000 in
theorem ck_144_2 : ab_chkC mt_prog cs_mt cs_cd cs_all 144 cq_144 mt_X9_countTakings cu_144 cu_144_2 = true := by decide +kernel
set_option maxRecDepth 100000 in
theorem ck_144_3 : ab_chkC mt_prog cs_mt cs_cd cs_all 144 cq_144 mt_X9_countTakings cu_144 cu_144_3 = true := by decide +kernel
set_option maxRecDepth 100000 in
theorem ck_144_4 : ab_chkC mt_prog cs_mt cs_cd cs_all 144 cq_144 mt_X9_countTakings cu_144 cu_144_4 = true := by decide +kernel
set_option maxRecDepth 100000 in
theorem ck_144_5 : ab_chkC mt_prog cs_mt cs_cd cs_all 144 cq_144 mt_X9_countTakings cu_144 cu_144_5 = true := by decide +kernel
set_option maxRecDepth 100000 in
theorem ck_144_6 : ab_chkC mt_prog cs_mt cs_cd cs_all 144 cq_144 mt_X9_countTakings cu_144 cu_144_6 = true := by decide +kernel
set_option maxRecDepth 100000 in
theorem ck_144_7 : ab_chkC mt_prog cs_mt cs_cd cs_all 144 cq_144 mt_X9_countTakings cu_144 cu_144_7 = true := by decide +kernel
set_option maxRecDepth 100000 in
theorem ck_144_8 : ab_chkC mt_prog cs_mt cs_cd cs_all 144 cq_144 mt_X9_countTakings cu_144 cu_144_8 = true := by decide +kernel
set_option maxRecDepth 100000 in
theorem ck_144_9 : ab_chkC mt_prog cs_mt cs_cd cs_all 144 cq_144 mt_X9_countTakings cu_144 cu_144_9 = true := by decide +kernel
set_option maxRecDepth 100000 in
theorem ck_144_10 : ab_chkC mt_prog cs_mt cs_cd cs_all 144 cq_144 mt_X9_countTakings cu_144 cu_144_10 = true := by decide +kernel
set_option maxRecDepth 100000 in
theorem ck_144_11 : ab_chkC mt_prog cs_mt cs_cd cs_all 144 cq_144 mt_X9_countTakings cu_144 cu_144_11 = true := by decide +kernel
set_option maxRecDepth 100000 in
theorem ck_144_12 : ab_chkC mt_prog cs_mt cs_cd cs_all 144 cq_144 mt_X9_countTakings cu_144 cu_144_12 = true := by decide +kernel
set_option maxRecDepth 100000 in
theorem ck_144_13 : ab_chkC mt_prog cs_mt cs_cd cs_all 144 cq_144 mt_X9_countTakings cu_144 cu_144_13 = true := by decide +kernel
set_option maxRecDepth 100000 in
theorem ck_144_14 : ab_chkC mt_prog cs_mt cs_cd cs_all 144 cq_144 mt_X9_countTakings cu_144 cu_144_14 = true := by decide +kernel
set_option maxRecDepth 100000 in
theorem ck_144_15 : ab_chkC mt_prog cs_mt cs_cd cs_all 144 cq_144 mt_X9_countTakings cu_144 cu_144_15 = true := by decide +kernel
set_option maxRecDepth 100000 in
theorem ck_144_16 : ab_chkC mt_prog cs_mt cs_cd cs_all 144 cq_144 mt_X9_countTakings cu_144 cu_144_16 = true := by decide +kernel
set_option maxRecDepth 100000 in
theorem ck_144_17 : ab_chkC mt_prog cs_mt cs_cd cs_all 144 cq_144 mt_X9_countTakings cu_144 cu_144_17 = true := by decide +kernel
set_option maxRecDepth 100000 in
theorem ck_144_18 : ab_chkC mt_prog cs_mt cs_cd cs_all 144 cq_144 mt_X9_countTakings cu_144 cu_144_18 = true := by decide +kernel
set_option maxRecDepth 100000 in
theorem ck_144_19 : ab_chkC mt_prog cs_mt cs_cd cs_all 144 cq_144 mt_X9_countTakings cu_144 cu_144_19 = true := by decide +kernel
set_option maxRecDepth 100000 in
theorem ck_144_20 : ab_chkC mt_prog cs_mt cs_cd cs_all 144 cq_144 mt_X9_countTakings cu_144 cu_144_20 = true := by decide +kernel
set_option maxRecDepth 100000 in
theorem ck_144_21 : ab_chkC mt_prog cs_mt cs_cd cs_all 144 cq_144 mt_X9_countTakings cu_144 cu_144_21 = true := by decide +kernel
set_option maxRecDepth 100000 in
theorem ck_144_22 : ab_chkC mt_prog cs_mt cs_cd cs_all 144 cq_144 mt_X9_countTakings cu_144 cu_144_22 = true := by decide +kernel
set_option maxRecDepth 100000 in
theorem ck_144_23 : ab_chkC mt_prog cs_mt cs_cd cs_all 144 cq_144 mt_X9_countTakings cu_144 cu_144_23 = true := by decide +kernel
set_option maxRecDepth 100000 in
theorem ck_144_24 : ab_chkC mt_prog cs_mt cs_cd cs_all 144 cq_144 mt_X9_countTakings cu_144 cu_144_24 = true := by decide +kernel
set_option maxRecDepth 100000 in
theorem ck_144_25 : ab_chkC mt_prog cs_mt cs_cd cs_all 144 cq_144 mt_X9_countTakings cu_144 cu_144_25 = true := by decide +kernel
set_option maxRecDepth 100000 in
theorem ck_144_26 : ab_chkC mt_prog cs_mt cs_cd cs_all 144 cq_144 mt_X9_countTakings cu_144 cu_144_26 = true := by decide +kernel
set_option maxRecDepth 100000 in
theorem ck_144_27 : ab_chkC mt_prog cs_mt cs_cd cs_all 144 cq_144 mt_X9_countTakings cu_144 cu_144_27 = true := by decide +kernel
set_option maxRecDepth 100000 in
theorem ck_145_E : ab_chkE mt_prog cs_mt cs_cd cs_all 145 cq_145 mt_X9_prepare cu_145 = true := by decide +kernel
set_option maxRecDepth 100000 in
theorem ck_145_0 : ab_chkC mt_prog cs_mt cs_cd cs_all 145 cq_145 mt_X9_prepare cu_145 cu_145_0 = true := by decide +kernel
set_option maxRecDepth 100000 in
theorem ck_146_E : ab_chkE mt_prog cs_mt cs_cd cs_all 146 cq_146 mt_X10_ways cu_146 = true := by decide +kernel
set_option maxRecDepth 100000 in
theorem ck_147_E : ab_chkE mt_prog cs_mt cs_cd cs_all 147 cq_147 mt_X10_worth cu_147 = true := by decide +kernel
set_option maxRecDepth 100000 in
theorem ck_148_E : ab_chkE mt_prog cs_mt cs_cd cs_all 148 cq_148 mt_X8_atMost cu_148 = true := by decide +kernel
set_option maxRecDepth 100000 in
theorem ck_148_0 : ab_chkC mt_prog cs_mt cs_cd cs_all 148 cq_148 mt_X8_atMost cu_148 cu_148_0 = true := by decide +kernel
set_option maxRecDepth 100000 in
theorem ck_149_E : ab_chkE mt_prog cs_mt cs_cd cs_all 149 cq_149 mt_X8_exactly cu_149 = true := by decide +kernel
set_option maxRecDepth 100000 in
theorem ck_150_E : ab_chkE mt_prog cs_mt cs_cd cs_all 150 cq_150 mt_X9_goes cu_150 = true := by decide +kernel
set_option maxRecDepth 100000 in
theorem ck_151_E : ab_chkE mt_prog cs_mt cs_cd cs_all 151 cq_151 mt_X9_choosePlain cu_151 = true := by decide +kernel
set_option maxRecDepth 100000 in
theorem ck_151_0 : ab_chkC mt_prog cs_mt cs_cd cs_all 151 cq_151 mt_X9_choosePlain cu_151 cu_151_0 = true := by decide +kernel
set_option maxRecDepth 100000 in
theorem ck_152_E : ab_chkE mt_prog cs_mt cs_cd cs_all 152 cq_152 mt_X8_exactly cu_152 = true := by decide +kernel
set_option maxRecDepth 100000 in
theorem ck_153_E : ab_chkE mt_prog cs_mt cs_cd cs_all 153 cq_153 mt_X9_goes cu_153 = true := by decide +kernel
set_option maxRecDepth 100000 in
theorem ck_154_E : ab_chkE mt_prog cs_mt cs_cd cs_all 154 cq_154 mt_X9_chooseTaking cu_154 = true := by decide +kernel
set_option maxRecDepth 100000 in
theorem ck_154_0 : ab_chkC mt_prog cs_mt cs_cd cs_all 154 cq_154 mt_X9_chooseTaking cu_154 cu_154_0 = true := by decide +kernel
set_option maxRecDepth 100000 in
theorem ck_154_1 : ab_chkC mt_prog cs_mt cs_cd cs_all 154 cq_154 mt_X9_chooseTaking cu_154 cu_154_1 = true := by decide +kernel
set_option maxRecDepth 100000 in
theorem ck_155_E : ab_chkE mt_prog cs_mt cs_cd cs_all 155 cq_155 mt_X9_walk cu_155 = true := by decide +kernel
set_option maxRecDepth 100000 in
theorem ck_155_0 : ab_chkC mt_prog cs_mt cs_cd cs_all 155 cq_155 mt_X9_walk cu_155 cu_155_0 = true := by decide +kernel
set_option maxRecDepth 100000 in
theorem ck_156_E : ab_chkE mt_prog cs_mt cs_cd cs_all 156 cq_156 mt_X9_findByOrder cu_156 = true := by decide +kernel
set_option maxRecDepth 100000 in
theorem ck_157_E : ab_chkE mt_prog cs_mt cs_cd cs_all 157 cq_157 mt_X9_findShortest cu_157 = true := by decide +kernel
set_option maxRecDepth 100000 in
theorem ck_157_0 : ab_chkC mt_prog cs_mt cs_cd cs_all 157 cq_157 mt_X9_findShortest cu_157 cu_157_0 = true := by decide +kernel
set_option maxRecDepth 100000 in
theorem ck_158_E : ab_chkE mt_prog cs_mt cs_cd cs_all 158 cq_158 mt_X10_write cu_158 = true := by decide +kernel
set_option maxRecDepth 100000 in
theorem ck_159_E : ab_chkE mt_prog cs_mt cs_cd cs_all 159 cq_159 mt_X10_wrong cu_159 = true := by decide +kernel
set_option maxRecDepth 100000 in
theorem ck_160_E : ab_chkE mt_prog cs_mt cs_cd cs_all 160 cq_160 mt_X11_isTaken cu_160 = true := by decide +kernel
set_option maxRecDepth 100000 in
theorem ck_160_0 : ab_chkC mt_prog cs_mt cs_cd cs_all 160 cq_160 mt_X11_isTaken cu_160 cu_160_0 = true := by decide +kernel
set_option maxRecDepth 100000 in
theorem ck_161_E : ab_chkE mt_prog cs_mt cs_cd cs_all 161 cq_161 mt_X11_worthOf cu_161 = true := by decide +kernel
set_option maxRecDepth 100000 in
theorem ck_161_0 : ab_chkC mt_prog cs_mt cs_cd cs_all 161 cq_161 mt_X11_worthOf cu_161 cu_161_0 = true := by decide +kernel
set_option maxRecDepth 100000 in
theorem ck_162_E : ab_chkE mt_prog cs_mt cs_cd cs_all 162 cq_162 mt_X11_lineWorth cu_162 = true := by decide +kernel
set_option maxRecDepth 100000 in
theorem ck_163_E : ab_chkE mt_prog cs_mt cs_cd cs_all 163 cq_163 mt_X11_ahead cu_163 = true := by decide +kernel
set_option maxRecDepth 100000 in
theorem ck_164_E : ab_chkE mt_prog cs_mt cs_cd cs_all 164 cq_164 mt_X11_asks cu_164 = true := by decide +kernel
set_option maxRecDepth 100000 in
theorem ck_165_E : ab_chkE mt_prog cs_mt cs_cd cs_all 165 cq_165 mt_X11_mayTake cu_165 = true := by decide +kernel
set_option maxRecDepth 100000 in
theorem ck_166_E : ab_chkE mt_prog cs_mt cs_cd cs_all 166 cq_166 mt_X11_mayBegin cu_166 = true := by decide +kernel
set_option maxRecDepth 100000 in
theorem ck_166_0 : ab_chkC mt_prog cs_mt cs_cd cs_all 166 cq_166 mt_X11_mayBegin cu_166 cu_166_0 = true := by decide +kernel
set_option maxRecDepth 100000 in
theorem ck_167_E : ab_chkE mt_prog cs_mt cs_cd cs_all 167 cq_167 mt_X11_keepsAll cu_167 = true := by decide +kernel
set_option maxRecDepth 100000 in
theorem ck_167_0 : ab_chkC mt_prog cs_mt cs_cd cs_all 167 cq_167 mt_X11_keepsAll cu_167 cu_167_0 = true := by decide +kernel
set_option maxRecDepth 100000 in
theorem ck_167_1 : ab_chkC mt_prog cs_mt cs_cd cs_all 167 cq_167 mt_X11_keepsAll cu_167 cu_167_1 = true := by decide +kernel
set_option maxRecDepth 100000 in
theorem ck_167_2 : ab_chkC mt_prog cs_mt cs_cd cs_all 167 cq_167 mt_X11_keepsAll cu_167 cu_167_2 = true := by decide +kernel
set_option maxRecDepth 100000 in
theorem ck_167_3 : ab_chkC mt_prog cs_mt cs_cd cs_all 167 cq_167 mt_X11_keepsAll cu_167 cu_167_3 = true := by decide +kernel
set_option maxRecDepth 100000 in
theorem ck_167_4 : ab_chkC mt_prog cs_mt cs_cd cs_all 167 cq_167 mt_X11_keepsAll cu_167 cu_167_4 = true := by decide +kernel
set_option maxRecDepth 100000 in
theorem ck_167_5 : ab_chkC mt_prog cs_mt cs_cd cs_all 167 cq_167 mt_X11_keepsAll cu_167 cu_167_5 = true := by decide +kernel
set_option maxRecDepth 100000 in
theorem ck_168_E : ab_chkE mt_prog cs_mt cs_cd cs_all 168 cq_168 mt_X11_begins cu_168 = true := by decide +kernel
set_option maxRecDepth 100000 in
theorem ck_168_0 : ab_chkC mt_prog cs_mt cs_cd cs_all 168 cq_168 mt_X11_begins cu_168 cu_168_0 = true := by decide +kernel
set_option maxRecDepth 100000 in
theorem ck_169_E : ab_chkE mt_prog cs_mt cs_cd cs_all 169 cq_169 mt_X11_blank cu_169 = true := by decide +kernel
set_option maxRecDepth 100000 in
theorem ck_170_E : ab_chkE mt_prog cs_mt cs_cd cs_all 170 cq_170 mt_X11_board cu_170 = true := by decide +kernel
set_option maxRecDepth 100000 in
theorem ck_171_E : ab_chkE mt_prog cs_mt cs_cd cs_all 171 cq_171 mt_X11_bundle cu_171 = true := by decide +kernel
set_option maxRecDepth 100000 in
theorem ck_172_E : ab_chkE mt_prog cs_mt cs_cd cs_all 172 cq_172 mt_X11_could cu_172 = true := by decide +kernel
set_option maxRecDepth 100000 in
theorem ck_173_E : ab_chkE mt_prog cs_mt cs_cd cs_all 173 cq_173 mt_X11_count cu_173 = true := by decide +kernel
set_option maxRecDepth 100000 in
theorem ck_174_E : ab_chkE mt_prog cs_mt cs_cd cs_all 174 cq_174 mt_X11_isMore cu_174 = true := by decide +kernel
set_option maxRecDepth 100000 in
theorem ck_175_E : ab_chkE mt_prog cs_mt cs_cd cs_all 175 cq_175 mt_X11_readCustom cu_175 = true := by decide +kernel
set_option maxRecDepth 100000 in
theorem ck_175_0 : ab_chkC mt_prog cs_mt cs_cd cs_all 175 cq_175 mt_X11_readCustom cu_175 cu_175_0 = true := by decide +kernel
set_option maxRecDepth 100000 in
theorem ck_175_1 : ab_chkC mt_prog cs_mt cs_cd cs_all 175 cq_175 mt_X11_readCustom cu_175 cu_175_1 = true := by decide +kernel
set_option maxRecDepth 100000 in
theorem ck_175_2 : ab_chkC mt_prog cs_mt cs_cd cs_all 175 cq_175 mt_X11_readCustom cu_175 cu_175_2 = true := by decide +kernel
set_option maxRecDepth 100000 in
theorem ck_175_3 : ab_chkC mt_prog cs_mt cs_cd cs_all 175 cq_175 mt_X11_readCustom cu_175 cu_175_3 = true := by decide +kernel
set_option maxRecDepth 100000 in
theorem ck_175_4 : ab_chkC mt_prog cs_mt cs_cd cs_all 175 cq_175 mt_X11_readCustom cu_175 cu_175_4 = true := by decide +kernel
set_option maxRecDepth 100000 in
theorem ck_175_5 : ab_chkC mt_prog cs_mt cs_cd cs_all 175 cq_175 mt_X11_readCustom cu_175 cu_175_5 = true := by decide +kernel
set_option maxRecDepth 100000 in
theorem ck_176_E : ab_chkE mt_prog cs_mt cs_cd cs_all 176 cq_176 mt_X11_custom cu_176 = true := by decide +kernel
set_option maxRecDepth 100000 in
theorem ck_177_E : ab_chkE mt_prog cs_mt cs_cd cs_all 177 cq_177 mt_X11_keepsAll cu_177 = true := by decide +kernel
set_option maxRecDepth 100000 in
theorem ck_177_0 : ab_chkC mt_prog cs_mt cs_cd cs_all 177 cq_177 mt_X11_keepsAll cu_177 cu_177_0 = true := by decide +kernel
set_option maxRecDepth 100000 in
theorem ck_177_1 : ab_chkC mt_prog cs_mt cs_cd cs_all 177 cq_177 mt_X11_keepsAll cu_177 cu_177_1 = true := by decide +kernel
set_option maxRecDepth 100000 in
theorem ck_177_2 : ab_chkC mt_prog cs_mt cs_cd cs_all 177 cq_177 mt_X11_keepsAll cu_177 cu_177_2 = true := by decide +kernel
set_option maxRecDepth 100000 in
theorem ck_177_3 : ab_chkC mt_prog cs_mt cs_cd cs_all 177 cq_177 mt_X11_keepsAll cu_177 cu_177_3 = true := by decide +kernel
set_option maxRecDepth 100000 in
theorem ck_177_4 : ab_chkC mt_prog cs_mt cs_cd cs_all 177 cq_177 mt_X11_keepsAll cu_177 cu_177_4 = true := by decide +kernel
set_option maxRecDepth 100000 in
theorem ck_177_5 : ab_chkC mt_prog cs_mt cs_cd cs_all 177 cq_177 mt_X11_keepsAll cu_177 cu_177_5 = true := by decide +kernel
