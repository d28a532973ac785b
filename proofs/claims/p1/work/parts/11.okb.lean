/-! ===== the tables are checked ===== -/
set_option maxRecDepth 100000 in
theorem ct_X2_firstWrong_0 : mc_X2_firstWrong_0.all (ax_chkE mt_prog RX2 "firstWrong" cX2_firstWrong) = true := by decide +kernel
set_option maxRecDepth 100000 in
theorem ct_X2_firstWrong_1 : mc_X2_firstWrong_1.all (ax_chkE mt_prog RX2 "firstWrong" cX2_firstWrong) = true := by decide +kernel
set_option maxRecDepth 100000 in
theorem ch_X2_firstWrong : ax_chkH (mt_X2_firstWrong, 1023, 125) = true := by decide +kernel
theorem pk_X2_firstWrong : ax_MOk mt_prog mt_X2_firstWrong := ax_MOk_of ch_X2_firstWrong (List.forall_mem_cons.mpr ⟨ct_X2_firstWrong_0, List.forall_mem_cons.mpr ⟨ct_X2_firstWrong_1, fun _ h => absurd h List.not_mem_nil⟩⟩)
set_option maxRecDepth 100000 in
theorem ct_X2_firstMended_0 : mc_X2_firstMended_0.all (ax_chkE mt_prog RX2 "firstMended" cX2_firstMended) = true := by decide +kernel
set_option maxRecDepth 100000 in
theorem ct_X2_firstMended_1 : mc_X2_firstMended_1.all (ax_chkE mt_prog RX2 "firstMended" cX2_firstMended) = true := by decide +kernel
set_option maxRecDepth 100000 in
theorem ch_X2_firstMended : ax_chkH (mt_X2_firstMended, 1035, 125) = true := by decide +kernel
theorem pk_X2_firstMended : ax_MOk mt_prog mt_X2_firstMended := ax_MOk_of ch_X2_firstMended (List.forall_mem_cons.mpr ⟨ct_X2_firstMended_0, List.forall_mem_cons.mpr ⟨ct_X2_firstMended_1, fun _ h => absurd h List.not_mem_nil⟩⟩)
set_option maxRecDepth 100000 in
theorem ct_X2_findSlip_0 : mc_X2_findSlip_0.all (ax_chkE mt_prog RX2 "findSlip" cX2_findSlip) = true := by decide +kernel
theorem ct_X2_findSlip_1 : mc_X2_findSlip_1.all (ax_chkE mt_prog RX2 "findSlip" cX2_findSlip) = true := rfl
set_option maxRecDepth 100000 in
theorem ct_X2_findSlip_2 : mc_X2_findSlip_2.all (ax_chkE mt_prog RX2 "findSlip" cX2_findSlip) = true := by decide +kernel
set_option maxRecDepth 100000 in
theorem ch_X2_findSlip : ax_chkH (mt_X2_findSlip, 1044, 125) = true := by decide +kernel
theorem pk_X2_findSlip : ax_MOk mt_prog mt_X2_findSlip := ax_MOk_of ch_X2_findSlip (List.forall_mem_cons.mpr ⟨ct_X2_findSlip_0, List.forall_mem_cons.mpr ⟨ct_X2_findSlip_1, List.forall_mem_cons.mpr ⟨ct_X2_findSlip_2, fun _ h => absurd h List.not_mem_nil⟩⟩⟩)
set_option maxRecDepth 100000 in
theorem ct_X2_digestOn_0 : mc_X2_digestOn_0.all (ax_chkE mt_prog RX2 "digestOn" cX2_digestOn) = true := by decide +kernel
set_option maxRecDepth 100000 in
theorem ct_X2_digestOn_1 : mc_X2_digestOn_1.all (ax_chkE mt_prog RX2 "digestOn" cX2_digestOn) = true := by decide +kernel
set_option maxRecDepth 100000 in
theorem ch_X2_digestOn : ax_chkH (mt_X2_digestOn, 1110, 125) = true := by decide +kernel
theorem pk_X2_digestOn : ax_MOk mt_prog mt_X2_digestOn := ax_MOk_of ch_X2_digestOn (List.forall_mem_cons.mpr ⟨ct_X2_digestOn_0, List.forall_mem_cons.mpr ⟨ct_X2_digestOn_1, fun _ h => absurd h List.not_mem_nil⟩⟩)
set_option maxRecDepth 100000 in
theorem ct_X3_init_0 : mc_X3_init_0.all (ax_chkE mt_prog RX3 "<init>" cX3_init) = true := by decide +kernel
set_option maxRecDepth 100000 in
theorem ct_X3_init_1 : mc_X3_init_1.all (ax_chkE mt_prog RX3 "<init>" cX3_init) = true := by decide +kernel
set_option maxRecDepth 100000 in
theorem ch_X3_init : ax_chkH (mt_X3_init, 405, 126) = true := by decide +kernel
theorem pk_X3_init : ax_MOk mt_prog mt_X3_init := ax_MOk_of ch_X3_init (List.forall_mem_cons.mpr ⟨ct_X3_init_0, List.forall_mem_cons.mpr ⟨ct_X3_init_1, fun _ h => absurd h List.not_mem_nil⟩⟩)
set_option maxRecDepth 100000 in
theorem ct_X3_remember_0 : mc_X3_remember_0.all (ax_chkE mt_prog RX3 "remember" cX3_remember) = true := by decide +kernel
set_option maxRecDepth 100000 in
theorem ct_X3_remember_1 : mc_X3_remember_1.all (ax_chkE mt_prog RX3 "remember" cX3_remember) = true := by decide +kernel
set_option maxRecDepth 100000 in
theorem ch_X3_remember : ax_chkH (mt_X3_remember, 988, 126) = true := by decide +kernel
theorem pk_X3_remember : ax_MOk mt_prog mt_X3_remember := ax_MOk_of ch_X3_remember (List.forall_mem_cons.mpr ⟨ct_X3_remember_0, List.forall_mem_cons.mpr ⟨ct_X3_remember_1, fun _ h => absurd h List.not_mem_nil⟩⟩)
set_option maxRecDepth 100000 in
theorem ct_X4_init_0 : mc_X4_init_0.all (ax_chkE mt_prog RX4 "<init>" cX4_init) = true := by decide +kernel
set_option maxRecDepth 100000 in
theorem ch_X4_init : ax_chkH (mt_X4_init, 146, 117) = true := by decide +kernel
theorem pk_X4_init : ax_MOk mt_prog mt_X4_init := ax_MOk_of ch_X4_init (List.forall_mem_cons.mpr ⟨ct_X4_init_0, fun _ h => absurd h List.not_mem_nil⟩)
set_option maxRecDepth 100000 in
theorem ct_X4_isRowOfSigns_0 : mc_X4_isRowOfSigns_0.all (ax_chkE mt_prog RX4 "isRowOfSigns" cX4_isRowOfSigns) = true := by decide +kernel
set_option maxRecDepth 100000 in
theorem ch_X4_isRowOfSigns : ax_chkH (mt_X4_isRowOfSigns, 667, 117) = true := by decide +kernel
theorem pk_X4_isRowOfSigns : ax_MOk mt_prog mt_X4_isRowOfSigns := ax_MOk_of ch_X4_isRowOfSigns (List.forall_mem_cons.mpr ⟨ct_X4_isRowOfSigns_0, fun _ h => absurd h List.not_mem_nil⟩)
set_option maxRecDepth 100000 in
theorem ct_X4_digestOn_0 : mc_X4_digestOn_0.all (ax_chkE mt_prog RX4 "digestOn" cX4_digestOn) = true := by decide +kernel
set_option maxRecDepth 100000 in
theorem ch_X4_digestOn : ax_chkH (mt_X4_digestOn, 1081, 117) = true := by decide +kernel
theorem pk_X4_digestOn : ax_MOk mt_prog mt_X4_digestOn := ax_MOk_of ch_X4_digestOn (List.forall_mem_cons.mpr ⟨ct_X4_digestOn_0, fun _ h => absurd h List.not_mem_nil⟩)
set_option maxRecDepth 100000 in
theorem ct_X5_init_0 : mc_X5_init_0.all (ax_chkE mt_prog RX5 "<init>" cX5_init) = true := by decide +kernel
set_option maxRecDepth 100000 in
theorem ch_X5_init : ax_chkH (mt_X5_init, 203, 121) = true := by decide +kernel
theorem pk_X5_init : ax_MOk mt_prog mt_X5_init := ax_MOk_of ch_X5_init (List.forall_mem_cons.mpr ⟨ct_X5_init_0, fun _ h => absurd h List.not_mem_nil⟩)
set_option maxRecDepth 100000 in
theorem ct_X5_copy_0 : mc_X5_copy_0.all (ax_chkE mt_prog RX5 "copy" cX5_copy) = true := by decide +kernel
set_option maxRecDepth 100000 in
theorem ct_X5_copy_1 : mc_X5_copy_1.all (ax_chkE mt_prog RX5 "copy" cX5_copy) = true := by decide +kernel
set_option maxRecDepth 100000 in
theorem ch_X5_copy : ax_chkH (mt_X5_copy, 792, 121) = true := by decide +kernel
theorem pk_X5_copy : ax_MOk mt_prog mt_X5_copy := ax_MOk_of ch_X5_copy (List.forall_mem_cons.mpr ⟨ct_X5_copy_0, List.forall_mem_cons.mpr ⟨ct_X5_copy_1, fun _ h => absurd h List.not_mem_nil⟩⟩)
set_option maxRecDepth 100000 in
theorem ct_X5_isTaken_0 : mc_X5_isTaken_0.all (ax_chkE mt_prog RX5 "isTaken" cX5_isTaken) = true := by decide +kernel
set_option maxRecDepth 100000 in
theorem ch_X5_isTaken : ax_chkH (mt_X5_isTaken, 692, 121) = true := by decide +kernel
theorem pk_X5_isTaken : ax_MOk mt_prog mt_X5_isTaken := ax_MOk_of ch_X5_isTaken (List.forall_mem_cons.mpr ⟨ct_X5_isTaken_0, fun _ h => absurd h List.not_mem_nil⟩)
set_option maxRecDepth 100000 in
theorem ct_X5_total_0 : mc_X5_total_0.all (ax_chkE mt_prog RX5 "total" cX5_total) = true := by decide +kernel
set_option maxRecDepth 100000 in
theorem ct_X5_total_1 : mc_X5_total_1.all (ax_chkE mt_prog RX5 "total" cX5_total) = true := by decide +kernel
set_option maxRecDepth 100000 in
theorem ch_X5_total : ax_chkH (mt_X5_total, 688, 121) = true := by decide +kernel
theorem pk_X5_total : ax_MOk mt_prog mt_X5_total := ax_MOk_of ch_X5_total (List.forall_mem_cons.mpr ⟨ct_X5_total_0, List.forall_mem_cons.mpr ⟨ct_X5_total_1, fun _ h => absurd h List.not_mem_nil⟩⟩)
set_option maxRecDepth 100000 in
theorem ct_X5_digestOn_0 : mc_X5_digestOn_0.all (ax_chkE mt_prog RX5 "digestOn" cX5_digestOn) = true := by decide +kernel
set_option maxRecDepth 100000 in
theorem ct_X5_digestOn_1 : mc_X5_digestOn_1.all (ax_chkE mt_prog RX5 "digestOn" cX5_digestOn) = true := by decide +kernel
set_option maxRecDepth 100000 in
theorem ch_X5_digestOn : ax_chkH (mt_X5_digestOn, 1094, 121) = true := by decide +kernel
theorem pk_X5_digestOn : ax_MOk mt_prog mt_X5_digestOn := ax_MOk_of ch_X5_digestOn (List.forall_mem_cons.mpr ⟨ct_X5_digestOn_0, List.forall_mem_cons.mpr ⟨ct_X5_digestOn_1, fun _ h => absurd h List.not_mem_nil⟩⟩)
set_option maxRecDepth 100000 in
theorem ct_X6_goodLetters_0 : mc_X6_goodLetters_0.all (ax_chkE mt_prog RX6 "goodLetters" cX6_goodLetters) = true := by decide +kernel
set_option maxRecDepth 100000 in
theorem ct_X6_goodLetters_1 : mc_X6_goodLetters_1.all (ax_chkE mt_prog RX6 "goodLetters" cX6_goodLetters) = true := by decide +kernel
set_option maxRecDepth 100000 in
theorem ch_X6_goodLetters : ax_chkH (mt_X6_goodLetters, 479, 128) = true := by decide +kernel
theorem pk_X6_goodLetters : ax_MOk mt_prog mt_X6_goodLetters := ax_MOk_of ch_X6_goodLetters (List.forall_mem_cons.mpr ⟨ct_X6_goodLetters_0, List.forall_mem_cons.mpr ⟨ct_X6_goodLetters_1, fun _ h => absurd h List.not_mem_nil⟩⟩)
set_option maxRecDepth 100000 in
theorem ct_X6_isWhole_0 : mc_X6_isWhole_0.all (ax_chkE mt_prog RX6 "isWhole" cX6_isWhole) = true := by decide +kernel
set_option maxRecDepth 100000 in
theorem ct_X6_isWhole_1 : mc_X6_isWhole_1.all (ax_chkE mt_prog RX6 "isWhole" cX6_isWhole) = true := by decide +kernel
set_option maxRecDepth 100000 in
theorem ch_X6_isWhole : ax_chkH (mt_X6_isWhole, 594, 128) = true := by decide +kernel
theorem pk_X6_isWhole : ax_MOk mt_prog mt_X6_isWhole := ax_MOk_of ch_X6_isWhole (List.forall_mem_cons.mpr ⟨ct_X6_isWhole_0, List.forall_mem_cons.mpr ⟨ct_X6_isWhole_1, fun _ h => absurd h List.not_mem_nil⟩⟩)
set_option maxRecDepth 100000 in
theorem ct_X6_endsRule_0 : mc_X6_endsRule_0.all (ax_chkE mt_prog RX6 "endsRule" cX6_endsRule) = true := by decide +kernel
set_option maxRecDepth 100000 in
theorem ch_X6_endsRule : ax_chkH (mt_X6_endsRule, 485, 128) = true := by decide +kernel
theorem pk_X6_endsRule : ax_MOk mt_prog mt_X6_endsRule := ax_MOk_of ch_X6_endsRule (List.forall_mem_cons.mpr ⟨ct_X6_endsRule_0, fun _ h => absurd h List.not_mem_nil⟩)
set_option maxRecDepth 100000 in
theorem ct_X7_init_0 : mc_X7_init_0.all (ax_chkE mt_prog RX7 "<init>" cX7_init) = true := by decide +kernel
set_option maxRecDepth 100000 in
theorem ct_X7_init_1 : mc_X7_init_1.all (ax_chkE mt_prog RX7 "<init>" cX7_init) = true := by decide +kernel
set_option maxRecDepth 100000 in
theorem ch_X7_init : ax_chkH (mt_X7_init, 312, 124) = true := by decide +kernel
theorem pk_X7_init : ax_MOk mt_prog mt_X7_init := ax_MOk_of ch_X7_init (List.forall_mem_cons.mpr ⟨ct_X7_init_0, List.forall_mem_cons.mpr ⟨ct_X7_init_1, fun _ h => absurd h List.not_mem_nil⟩⟩)
set_option maxRecDepth 100000 in
theorem ct_X7_placesOn_0 : mc_X7_placesOn_0.all (ax_chkE mt_prog RX7 "placesOn" cX7_placesOn) = true := by decide +kernel
set_option maxRecDepth 100000 in
theorem ct_X7_placesOn_1 : mc_X7_placesOn_1.all (ax_chkE mt_prog RX7 "placesOn" cX7_placesOn) = true := by decide +kernel
set_option maxRecDepth 100000 in
theorem ch_X7_placesOn : ax_chkH (mt_X7_placesOn, 926, 124) = true := by decide +kernel
theorem pk_X7_placesOn : ax_MOk mt_prog mt_X7_placesOn := ax_MOk_of ch_X7_placesOn (List.forall_mem_cons.mpr ⟨ct_X7_placesOn_0, List.forall_mem_cons.mpr ⟨ct_X7_placesOn_1, fun _ h => absurd h List.not_mem_nil⟩⟩)
set_option maxRecDepth 100000 in
theorem ct_X7_isStone_0 : mc_X7_isStone_0.all (ax_chkE mt_prog RX7 "isStone" cX7_isStone) = true := by decide +kernel
set_option maxRecDepth 100000 in
theorem ch_X7_isStone : ax_chkH (mt_X7_isStone, 923, 124) = true := by decide +kernel
theorem pk_X7_isStone : ax_MOk mt_prog mt_X7_isStone := ax_MOk_of ch_X7_isStone (List.forall_mem_cons.mpr ⟨ct_X7_isStone_0, fun _ h => absurd h List.not_mem_nil⟩)
set_option maxRecDepth 100000 in
theorem ct_X7_digestOn_0 : mc_X7_digestOn_0.all (ax_chkE mt_prog RX7 "digestOn" cX7_digestOn) = true := by decide +kernel
set_option maxRecDepth 100000 in
theorem ct_X7_digestOn_1 : mc_X7_digestOn_1.all (ax_chkE mt_prog RX7 "digestOn" cX7_digestOn) = true := by decide +kernel
set_option maxRecDepth 100000 in
theorem ch_X7_digestOn : ax_chkH (mt_X7_digestOn, 1104, 124) = true := by decide +kernel
theorem pk_X7_digestOn : ax_MOk mt_prog mt_X7_digestOn := ax_MOk_of ch_X7_digestOn (List.forall_mem_cons.mpr ⟨ct_X7_digestOn_0, List.forall_mem_cons.mpr ⟨ct_X7_digestOn_1, fun _ h => absurd h List.not_mem_nil⟩⟩)
set_option maxRecDepth 100000 in
theorem ct_X8_init_0 : mc_X8_init_0.all (ax_chkE mt_prog RX8 "<init>" cX8_init) = true := by decide +kernel
set_option maxRecDepth 100000 in
theorem ct_X8_init_1 : mc_X8_init_1.all (ax_chkE mt_prog RX8 "<init>" cX8_init) = true := by decide +kernel
set_option maxRecDepth 100000 in
theorem ct_X8_init_2 : mc_X8_init_2.all (ax_chkE mt_prog RX8 "<init>" cX8_init) = true := by decide +kernel
set_option maxRecDepth 100000 in
theorem ct_X8_init_3 : mc_X8_init_3.all (ax_chkE mt_prog RX8 "<init>" cX8_init) = true := by decide +kernel
set_option maxRecDepth 100000 in
theorem ct_X8_init_4 : mc_X8_init_4.all (ax_chkE mt_prog RX8 "<init>" cX8_init) = true := by decide +kernel
set_option maxRecDepth 100000 in
theorem ch_X8_init : ax_chkH (mt_X8_init, 175, 119) = true := by decide +kernel
theorem pk_X8_init : ax_MOk mt_prog mt_X8_init := ax_MOk_of ch_X8_init (List.forall_mem_cons.mpr ⟨ct_X8_init_0, List.forall_mem_cons.mpr ⟨ct_X8_init_1, List.forall_mem_cons.mpr ⟨ct_X8_init_2, List.forall_mem_cons.mpr ⟨ct_X8_init_3, List.forall_mem_cons.mpr ⟨ct_X8_init_4, fun _ h => absurd h List.not_mem_nil⟩⟩⟩⟩⟩)
set_option maxRecDepth 100000 in
theorem ct_X9_init_0 : mc_X9_init_0.all (ax_chkE mt_prog RX9 "<init>" cX9_init) = true := by decide +kernel
set_option maxRecDepth 100000 in
theorem ct_X9_init_1 : mc_X9_init_1.all (ax_chkE mt_prog RX9 "<init>" cX9_init) = true := by decide +kernel
set_option maxRecDepth 100000 in
theorem ct_X9_init_2 : mc_X9_init_2.all (ax_chkE mt_prog RX9 "<init>" cX9_init) = true := by decide +kernel
set_option maxRecDepth 100000 in
theorem ch_X9_init : ax_chkH (mt_X9_init, 169, 118) = true := by decide +kernel
theorem pk_X9_init : ax_MOk mt_prog mt_X9_init := ax_MOk_of ch_X9_init (List.forall_mem_cons.mpr ⟨ct_X9_init_0, List.forall_mem_cons.mpr ⟨ct_X9_init_1, List.forall_mem_cons.mpr ⟨ct_X9_init_2, fun _ h => absurd h List.not_mem_nil⟩⟩⟩)
set_option maxRecDepth 100000 in
theorem ct_X10_init_0 : mc_X10_init_0.all (ax_chkE mt_prog RX10 "<init>" cX10_init) = true := by decide +kernel
set_option maxRecDepth 100000 in
theorem ct_X10_init_1 : mc_X10_init_1.all (ax_chkE mt_prog RX10 "<init>" cX10_init) = true := by decide +kernel
set_option maxRecDepth 100000 in
theorem ct_X10_init_2 : mc_X10_init_2.all (ax_chkE mt_prog RX10 "<init>" cX10_init) = true := by decide +kernel
set_option maxRecDepth 100000 in
theorem ct_X10_init_3 : mc_X10_init_3.all (ax_chkE mt_prog RX10 "<init>" cX10_init) = true := by decide +kernel
set_option maxRecDepth 100000 in
theorem ct_X10_init_4 : mc_X10_init_4.all (ax_chkE mt_prog RX10 "<init>" cX10_init) = true := by decide +kernel
set_option maxRecDepth 100000 in
theorem ct_X10_init_5 : mc_X10_init_5.all (ax_chkE mt_prog RX10 "<init>" cX10_init) = true := by decide +kernel
set_option maxRecDepth 100000 in
theorem ch_X10_init : ax_chkH (mt_X10_init, 138, 116) = true := by decide +kernel
theorem pk_X10_init : ax_MOk mt_prog mt_X10_init := ax_MOk_of ch_X10_init (List.forall_mem_cons.mpr ⟨ct_X10_init_0, List.forall_mem_cons.mpr ⟨ct_X10_init_1, List.forall_mem_cons.mpr ⟨ct_X10_init_2, List.forall_mem_cons.mpr ⟨ct_X10_init_3, List.forall_mem_cons.mpr ⟨ct_X10_init_4, List.forall_mem_cons.mpr ⟨ct_X10_init_5, fun _ h => absurd h List.not_mem_nil⟩⟩⟩⟩⟩⟩)
