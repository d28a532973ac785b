/-! ===== the tables are checked ===== -/
set_option maxRecDepth 100000 in
theorem ct_X3_remember_0 : mc_X3_remember_0.all (ax_chkE mt_prog RX3 "remember" cX3_remember) = true := by decide +kernel
set_option maxRecDepth 100000 in
theorem ct_X3_remember_1 : mc_X3_remember_1.all (ax_chkE mt_prog RX3 "remember" cX3_remember) = true := by decide +kernel
set_option maxRecDepth 100000 in
theorem ch_X3_remember : ax_chkH (mt_X3_remember, 988, 126) = true := by decide +kernel
theorem pk_X3_remember : ax_MOk mt_prog mt_X3_remember := ax_MOk_of ch_X3_remember (List.forall_mem_cons.mpr ⟨ct_X3_remember_0, List.forall_mem_cons.mpr ⟨ct_X3_remember_1, fun _ h => absurd h List.not_mem_nil⟩⟩)
set_option maxRecDepth 100000 in
theorem ct_X3_meet_0 : mc_X3_meet_0.all (ax_chkE mt_prog RX3 "meet" cX3_meet) = true := by decide +kernel
set_option maxRecDepth 100000 in
theorem ct_X3_meet_1 : mc_X3_meet_1.all (ax_chkE mt_prog RX3 "meet" cX3_meet) = true := by decide +kernel
set_option maxRecDepth 100000 in
theorem ch_X3_meet : ax_chkH (mt_X3_meet, 604, 126) = true := by decide +kernel
theorem pk_X3_meet : ax_MOk mt_prog mt_X3_meet := ax_MOk_of ch_X3_meet (List.forall_mem_cons.mpr ⟨ct_X3_meet_0, List.forall_mem_cons.mpr ⟨ct_X3_meet_1, fun _ h => absurd h List.not_mem_nil⟩⟩)
set_option maxRecDepth 100000 in
theorem ct_X4_init_0 : mc_X4_init_0.all (ax_chkE mt_prog RX4 "<init>" cX4_init) = true := by decide +kernel
set_option maxRecDepth 100000 in
theorem ch_X4_init : ax_chkH (mt_X4_init, 146, 117) = true := by decide +kernel
theorem pk_X4_init : ax_MOk mt_prog mt_X4_init := ax_MOk_of ch_X4_init (List.forall_mem_cons.mpr ⟨ct_X4_init_0, fun _ h => absurd h List.not_mem_nil⟩)
set_option maxRecDepth 100000 in
theorem ct_X4_codeAt_0 : mc_X4_codeAt_0.all (ax_chkE mt_prog RX4 "codeAt" cX4_codeAt) = true := by decide +kernel
set_option maxRecDepth 100000 in
theorem ch_X4_codeAt : ax_chkH (mt_X4_codeAt, 464, 117) = true := by decide +kernel
theorem pk_X4_codeAt : ax_MOk mt_prog mt_X4_codeAt := ax_MOk_of ch_X4_codeAt (List.forall_mem_cons.mpr ⟨ct_X4_codeAt_0, fun _ h => absurd h List.not_mem_nil⟩)
set_option maxRecDepth 100000 in
theorem ct_X4_lettersIn_0 : mc_X4_lettersIn_0.all (ax_chkE mt_prog RX4 "lettersIn" cX4_lettersIn) = true := by decide +kernel
set_option maxRecDepth 100000 in
theorem ct_X4_lettersIn_1 : mc_X4_lettersIn_1.all (ax_chkE mt_prog RX4 "lettersIn" cX4_lettersIn) = true := by decide +kernel
set_option maxRecDepth 100000 in
theorem ch_X4_lettersIn : ax_chkH (mt_X4_lettersIn, 461, 117) = true := by decide +kernel
theorem pk_X4_lettersIn : ax_MOk mt_prog mt_X4_lettersIn := ax_MOk_of ch_X4_lettersIn (List.forall_mem_cons.mpr ⟨ct_X4_lettersIn_0, List.forall_mem_cons.mpr ⟨ct_X4_lettersIn_1, fun _ h => absurd h List.not_mem_nil⟩⟩)
set_option maxRecDepth 100000 in
theorem ct_X4_append_0 : mc_X4_append_0.all (ax_chkE mt_prog RX4 "append" cX4_append) = true := by decide +kernel
set_option maxRecDepth 100000 in
theorem ct_X4_append_1 : mc_X4_append_1.all (ax_chkE mt_prog RX4 "append" cX4_append) = true := by decide +kernel
set_option maxRecDepth 100000 in
theorem ch_X4_append : ax_chkH (mt_X4_append, 468, 117) = true := by decide +kernel
theorem pk_X4_append : ax_MOk mt_prog mt_X4_append := ax_MOk_of ch_X4_append (List.forall_mem_cons.mpr ⟨ct_X4_append_0, List.forall_mem_cons.mpr ⟨ct_X4_append_1, fun _ h => absurd h List.not_mem_nil⟩⟩)
set_option maxRecDepth 100000 in
theorem ct_X4_isRowOfSigns_0 : mc_X4_isRowOfSigns_0.all (ax_chkE mt_prog RX4 "isRowOfSigns" cX4_isRowOfSigns) = true := by decide +kernel
set_option maxRecDepth 100000 in
theorem ct_X4_isRowOfSigns_1 : mc_X4_isRowOfSigns_1.all (ax_chkE mt_prog RX4 "isRowOfSigns" cX4_isRowOfSigns) = true := by decide +kernel
set_option maxRecDepth 100000 in
theorem ch_X4_isRowOfSigns : ax_chkH (mt_X4_isRowOfSigns, 667, 117) = true := by decide +kernel
theorem pk_X4_isRowOfSigns : ax_MOk mt_prog mt_X4_isRowOfSigns := ax_MOk_of ch_X4_isRowOfSigns (List.forall_mem_cons.mpr ⟨ct_X4_isRowOfSigns_0, List.forall_mem_cons.mpr ⟨ct_X4_isRowOfSigns_1, fun _ h => absurd h List.not_mem_nil⟩⟩)
set_option maxRecDepth 100000 in
theorem ct_X4_copySigns_0 : mc_X4_copySigns_0.all (ax_chkE mt_prog RX4 "copySigns" cX4_copySigns) = true := by decide +kernel
set_option maxRecDepth 100000 in
theorem ct_X4_copySigns_1 : mc_X4_copySigns_1.all (ax_chkE mt_prog RX4 "copySigns" cX4_copySigns) = true := by decide +kernel
set_option maxRecDepth 100000 in
theorem ch_X4_copySigns : ax_chkH (mt_X4_copySigns, 672, 117) = true := by decide +kernel
theorem pk_X4_copySigns : ax_MOk mt_prog mt_X4_copySigns := ax_MOk_of ch_X4_copySigns (List.forall_mem_cons.mpr ⟨ct_X4_copySigns_0, List.forall_mem_cons.mpr ⟨ct_X4_copySigns_1, fun _ h => absurd h List.not_mem_nil⟩⟩)
set_option maxRecDepth 100000 in
theorem ct_X4_digestOn_0 : mc_X4_digestOn_0.all (ax_chkE mt_prog RX4 "digestOn" cX4_digestOn) = true := by decide +kernel
set_option maxRecDepth 100000 in
theorem ch_X4_digestOn : ax_chkH (mt_X4_digestOn, 1081, 117) = true := by decide +kernel
theorem pk_X4_digestOn : ax_MOk mt_prog mt_X4_digestOn := ax_MOk_of ch_X4_digestOn (List.forall_mem_cons.mpr ⟨ct_X4_digestOn_0, fun _ h => absurd h List.not_mem_nil⟩)
set_option maxRecDepth 100000 in
theorem ct_X5_init_0 : mc_X5_init_0.all (ax_chkE mt_prog RX5 "<init>" cX5_init) = true := by decide +kernel
set_option maxRecDepth 100000 in
theorem ch_X5_init : ax_chkH (mt_X5_init, 203, 121) = true := by decide +kernel
theorem pk_X5_init : ax_MOk mt_prog mt_X5_init := ax_MOk_of ch_X5_init (List.forall_mem_cons.mpr ⟨ct_X5_init_0, fun _ h => absurd h List.not_mem_nil⟩)
set_option maxRecDepth 100000 in
theorem ct_X5_copy_0 : mc_X5_copy_0.all (ax_chkE mt_prog RX5 "copy" cX5_copy) = true := by decide +kernel
set_option maxRecDepth 100000 in
theorem ct_X5_copy_1 : mc_X5_copy_1.all (ax_chkE mt_prog RX5 "copy" cX5_copy) = true := by decide +kernel
set_option maxRecDepth 100000 in
theorem ch_X5_copy : ax_chkH (mt_X5_copy, 792, 121) = true := by decide +kernel
theorem pk_X5_copy : ax_MOk mt_prog mt_X5_copy := ax_MOk_of ch_X5_copy (List.forall_mem_cons.mpr ⟨ct_X5_copy_0, List.forall_mem_cons.mpr ⟨ct_X5_copy_1, fun _ h => absurd h List.not_mem_nil⟩⟩)
set_option maxRecDepth 100000 in
theorem ct_X5_put_0 : mc_X5_put_0.all (ax_chkE mt_prog RX5 "put" cX5_put) = true := by decide +kernel
set_option maxRecDepth 100000 in
theorem ct_X5_put_1 : mc_X5_put_1.all (ax_chkE mt_prog RX5 "put" cX5_put) = true := by decide +kernel
set_option maxRecDepth 100000 in
theorem ch_X5_put : ax_chkH (mt_X5_put, 676, 121) = true := by decide +kernel
theorem pk_X5_put : ax_MOk mt_prog mt_X5_put := ax_MOk_of ch_X5_put (List.forall_mem_cons.mpr ⟨ct_X5_put_0, List.forall_mem_cons.mpr ⟨ct_X5_put_1, fun _ h => absurd h List.not_mem_nil⟩⟩)
set_option maxRecDepth 100000 in
theorem ct_X5_isTaken_0 : mc_X5_isTaken_0.all (ax_chkE mt_prog RX5 "isTaken" cX5_isTaken) = true := by decide +kernel
set_option maxRecDepth 100000 in
theorem ct_X5_isTaken_1 : mc_X5_isTaken_1.all (ax_chkE mt_prog RX5 "isTaken" cX5_isTaken) = true := by decide +kernel
set_option maxRecDepth 100000 in
theorem ch_X5_isTaken : ax_chkH (mt_X5_isTaken, 692, 121) = true := by decide +kernel
theorem pk_X5_isTaken : ax_MOk mt_prog mt_X5_isTaken := ax_MOk_of ch_X5_isTaken (List.forall_mem_cons.mpr ⟨ct_X5_isTaken_0, List.forall_mem_cons.mpr ⟨ct_X5_isTaken_1, fun _ h => absurd h List.not_mem_nil⟩⟩)
set_option maxRecDepth 100000 in
theorem ct_X5_total_0 : mc_X5_total_0.all (ax_chkE mt_prog RX5 "total" cX5_total) = true := by decide +kernel
set_option maxRecDepth 100000 in
theorem ct_X5_total_1 : mc_X5_total_1.all (ax_chkE mt_prog RX5 "total" cX5_total) = true := by decide +kernel
set_option maxRecDepth 100000 in
theorem ch_X5_total : ax_chkH (mt_X5_total, 688, 121) = true := by decide +kernel
theorem pk_X5_total : ax_MOk mt_prog mt_X5_total := ax_MOk_of ch_X5_total (List.forall_mem_cons.mpr ⟨ct_X5_total_0, List.forall_mem_cons.mpr ⟨ct_X5_total_1, fun _ h => absurd h List.not_mem_nil⟩⟩)
set_option maxRecDepth 100000 in
theorem ct_X5_digestOn_0 : mc_X5_digestOn_0.all (ax_chkE mt_prog RX5 "digestOn" cX5_digestOn) = true := by decide +kernel
set_option maxRecDepth 100000 in
theorem ct_X5_digestOn_1 : mc_X5_digestOn_1.all (ax_chkE mt_prog RX5 "digestOn" cX5_digestOn) = true := by decide +kernel
set_option maxRecDepth 100000 in
theorem ch_X5_digestOn : ax_chkH (mt_X5_digestOn, 1094, 121) = true := by decide +kernel
theorem pk_X5_digestOn : ax_MOk mt_prog mt_X5_digestOn := ax_MOk_of ch_X5_digestOn (List.forall_mem_cons.mpr ⟨ct_X5_digestOn_0, List.forall_mem_cons.mpr ⟨ct_X5_digestOn_1, fun _ h => absurd h List.not_mem_nil⟩⟩)
set_option maxRecDepth 100000 in
theorem ct_X6_goodLetters_0 : mc_X6_goodLetters_0.all (ax_chkE mt_prog RX6 "goodLetters" cX6_goodLetters) = true := by decide +kernel
set_option maxRecDepth 100000 in
theorem ct_X6_goodLetters_1 : mc_X6_goodLetters_1.all (ax_chkE mt_prog RX6 "goodLetters" cX6_goodLetters) = true := by decide +kernel
set_option maxRecDepth 100000 in
theorem ch_X6_goodLetters : ax_chkH (mt_X6_goodLetters, 479, 128) = true := by decide +kernel
theorem pk_X6_goodLetters : ax_MOk mt_prog mt_X6_goodLetters := ax_MOk_of ch_X6_goodLetters (List.forall_mem_cons.mpr ⟨ct_X6_goodLetters_0, List.forall_mem_cons.mpr ⟨ct_X6_goodLetters_1, fun _ h => absurd h List.not_mem_nil⟩⟩)
set_option maxRecDepth 100000 in
theorem ct_X6_isWhole_0 : mc_X6_isWhole_0.all (ax_chkE mt_prog RX6 "isWhole" cX6_isWhole) = true := by decide +kernel
set_option maxRecDepth 100000 in
theorem ct_X6_isWhole_1 : mc_X6_isWhole_1.all (ax_chkE mt_prog RX6 "isWhole" cX6_isWhole) = true := by decide +kernel
set_option maxRecDepth 100000 in
theorem ch_X6_isWhole : ax_chkH (mt_X6_isWhole, 594, 128) = true := by decide +kernel
theorem pk_X6_isWhole : ax_MOk mt_prog mt_X6_isWhole := ax_MOk_of ch_X6_isWhole (List.forall_mem_cons.mpr ⟨ct_X6_isWhole_0, List.forall_mem_cons.mpr ⟨ct_X6_isWhole_1, fun _ h => absurd h List.not_mem_nil⟩⟩)
set_option maxRecDepth 100000 in
theorem ct_X6_read_0 : mc_X6_read_0.all (ax_chkE mt_prog RX6 "read" cX6_read) = true := by decide +kernel
set_option maxRecDepth 100000 in
theorem ct_X6_read_1 : mc_X6_read_1.all (ax_chkE mt_prog RX6 "read" cX6_read) = true := by decide +kernel
set_option maxRecDepth 100000 in
theorem ch_X6_read : ax_chkH (mt_X6_read, 597, 128) = true := by decide +kernel
theorem pk_X6_read : ax_MOk mt_prog mt_X6_read := ax_MOk_of ch_X6_read (List.forall_mem_cons.mpr ⟨ct_X6_read_0, List.forall_mem_cons.mpr ⟨ct_X6_read_1, fun _ h => absurd h List.not_mem_nil⟩⟩)
set_option maxRecDepth 100000 in
theorem ct_X6_keep_0 : mc_X6_keep_0.all (ax_chkE mt_prog RX6 "keep" cX6_keep) = true := by decide +kernel
set_option maxRecDepth 100000 in
theorem ct_X6_keep_1 : mc_X6_keep_1.all (ax_chkE mt_prog RX6 "keep" cX6_keep) = true := by decide +kernel
set_option maxRecDepth 100000 in
theorem ct_X6_keep_2 : mc_X6_keep_2.all (ax_chkE mt_prog RX6 "keep" cX6_keep) = true := by decide +kernel
set_option maxRecDepth 100000 in
theorem ch_X6_keep : ax_chkH (mt_X6_keep, 600, 128) = true := by decide +kernel
theorem pk_X6_keep : ax_MOk mt_prog mt_X6_keep := ax_MOk_of ch_X6_keep (List.forall_mem_cons.mpr ⟨ct_X6_keep_0, List.forall_mem_cons.mpr ⟨ct_X6_keep_1, List.forall_mem_cons.mpr ⟨ct_X6_keep_2, fun _ h => absurd h List.not_mem_nil⟩⟩⟩)
