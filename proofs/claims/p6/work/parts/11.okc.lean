/-! ===== the tables are checked ===== -/
set_option maxRecDepth 100000 in
theorem ct_X2_append_0 : mc_X2_append_0.all (ax_chkE mt_prog RX2 "append" cX2_append) = true := by decide +kernel
set_option maxRecDepth 100000 in
theorem ct_X2_append_1 : mc_X2_append_1.all (ax_chkE mt_prog RX2 "append" cX2_append) = true := by decide +kernel
set_option maxRecDepth 100000 in
theorem ct_X2_append_2 : mc_X2_append_2.all (ax_chkE mt_prog RX2 "append" cX2_append) = true := by decide +kernel
set_option maxRecDepth 100000 in
theorem ch_X2_append : ax_chkH (mt_X2_append, 1005, 125) = true := by decide +kernel
theorem pk_X2_append : ax_MOk mt_prog mt_X2_append := ax_MOk_of ch_X2_append (List.forall_mem_cons.mpr ⟨ct_X2_append_0, List.forall_mem_cons.mpr ⟨ct_X2_append_1, List.forall_mem_cons.mpr ⟨ct_X2_append_2, fun _ h => absurd h List.not_mem_nil⟩⟩⟩)
set_option maxRecDepth 100000 in
theorem ct_X2_clear_0 : mc_X2_clear_0.all (ax_chkE mt_prog RX2 "clear" cX2_clear) = true := by decide +kernel
set_option maxRecDepth 100000 in
theorem ch_X2_clear : ax_chkH (mt_X2_clear, 1015, 125) = true := by decide +kernel
theorem pk_X2_clear : ax_MOk mt_prog mt_X2_clear := ax_MOk_of ch_X2_clear (List.forall_mem_cons.mpr ⟨ct_X2_clear_0, fun _ h => absurd h List.not_mem_nil⟩)
set_option maxRecDepth 100000 in
theorem ct_X2_totalAhead_0 : mc_X2_totalAhead_0.all (ax_chkE mt_prog RX2 "totalAhead" cX2_totalAhead) = true := by decide +kernel
set_option maxRecDepth 100000 in
theorem ch_X2_totalAhead : ax_chkH (mt_X2_totalAhead, 1027, 125) = true := by decide +kernel
theorem pk_X2_totalAhead : ax_MOk mt_prog mt_X2_totalAhead := ax_MOk_of ch_X2_totalAhead (List.forall_mem_cons.mpr ⟨ct_X2_totalAhead_0, fun _ h => absurd h List.not_mem_nil⟩)
set_option maxRecDepth 100000 in
theorem ct_X2_firstWrong_0 : mc_X2_firstWrong_0.all (ax_chkE mt_prog RX2 "firstWrong" cX2_firstWrong) = true := by decide +kernel
set_option maxRecDepth 100000 in
theorem ct_X2_firstWrong_1 : mc_X2_firstWrong_1.all (ax_chkE mt_prog RX2 "firstWrong" cX2_firstWrong) = true := by decide +kernel
set_option maxRecDepth 100000 in
theorem ch_X2_firstWrong : ax_chkH (mt_X2_firstWrong, 1023, 125) = true := by decide +kernel
theorem pk_X2_firstWrong : ax_MOk mt_prog mt_X2_firstWrong := ax_MOk_of ch_X2_firstWrong (List.forall_mem_cons.mpr ⟨ct_X2_firstWrong_0, List.forall_mem_cons.mpr ⟨ct_X2_firstWrong_1, fun _ h => absurd h List.not_mem_nil⟩⟩)
set_option maxRecDepth 100000 in
theorem ct_X2_firstMended_0 : mc_X2_firstMended_0.all (ax_chkE mt_prog RX2 "firstMended" cX2_firstMended) = true := by decide +kernel
set_option maxRecDepth 100000 in
theorem ct_X2_firstMended_1 : mc_X2_firstMended_1.all (ax_chkE mt_prog RX2 "firstMended" cX2_firstMended) = true := by decide +kernel
set_option maxRecDepth 100000 in
theorem ch_X2_firstMended : ax_chkH (mt_X2_firstMended, 1035, 125) = true := by decide +kernel
theorem pk_X2_firstMended : ax_MOk mt_prog mt_X2_firstMended := ax_MOk_of ch_X2_firstMended (List.forall_mem_cons.mpr ⟨ct_X2_firstMended_0, List.forall_mem_cons.mpr ⟨ct_X2_firstMended_1, fun _ h => absurd h List.not_mem_nil⟩⟩)
set_option maxRecDepth 100000 in
theorem ct_X2_findSlip_0 : mc_X2_findSlip_0.all (ax_chkE mt_prog RX2 "findSlip" cX2_findSlip) = true := by decide +kernel
set_option maxRecDepth 100000 in
theorem ct_X2_findSlip_1 : mc_X2_findSlip_1.all (ax_chkE mt_prog RX2 "findSlip" cX2_findSlip) = true := by decide +kernel
set_option maxRecDepth 100000 in
theorem ct_X2_findSlip_2 : mc_X2_findSlip_2.all (ax_chkE mt_prog RX2 "findSlip" cX2_findSlip) = true := by decide +kernel
set_option maxRecDepth 100000 in
theorem ch_X2_findSlip : ax_chkH (mt_X2_findSlip, 1044, 125) = true := by decide +kernel
theorem pk_X2_findSlip : ax_MOk mt_prog mt_X2_findSlip := ax_MOk_of ch_X2_findSlip (List.forall_mem_cons.mpr ⟨ct_X2_findSlip_0, List.forall_mem_cons.mpr ⟨ct_X2_findSlip_1, List.forall_mem_cons.mpr ⟨ct_X2_findSlip_2, fun _ h => absurd h List.not_mem_nil⟩⟩⟩)
set_option maxRecDepth 100000 in
theorem ct_X2_canBecome_0 : mc_X2_canBecome_0.all (ax_chkE mt_prog RX2 "canBecome" cX2_canBecome) = true := by decide +kernel
set_option maxRecDepth 100000 in
theorem ct_X2_canBecome_1 : mc_X2_canBecome_1.all (ax_chkE mt_prog RX2 "canBecome" cX2_canBecome) = true := by decide +kernel
set_option maxRecDepth 100000 in
theorem ch_X2_canBecome : ax_chkH (mt_X2_canBecome, 1048, 125) = true := by decide +kernel
theorem pk_X2_canBecome : ax_MOk mt_prog mt_X2_canBecome := ax_MOk_of ch_X2_canBecome (List.forall_mem_cons.mpr ⟨ct_X2_canBecome_0, List.forall_mem_cons.mpr ⟨ct_X2_canBecome_1, fun _ h => absurd h List.not_mem_nil⟩⟩)
set_option maxRecDepth 100000 in
theorem ct_X2_withOneMore_0 : mc_X2_withOneMore_0.all (ax_chkE mt_prog RX2 "withOneMore" cX2_withOneMore) = true := by decide +kernel
set_option maxRecDepth 100000 in
theorem ct_X2_withOneMore_1 : mc_X2_withOneMore_1.all (ax_chkE mt_prog RX2 "withOneMore" cX2_withOneMore) = true := by decide +kernel
set_option maxRecDepth 100000 in
theorem ct_X2_withOneMore_2 : mc_X2_withOneMore_2.all (ax_chkE mt_prog RX2 "withOneMore" cX2_withOneMore) = true := by decide +kernel
set_option maxRecDepth 100000 in
theorem ct_X2_withOneMore_3 : mc_X2_withOneMore_3.all (ax_chkE mt_prog RX2 "withOneMore" cX2_withOneMore) = true := by decide +kernel
set_option maxRecDepth 100000 in
theorem ch_X2_withOneMore : ax_chkH (mt_X2_withOneMore, 1052, 125) = true := by decide +kernel
theorem pk_X2_withOneMore : ax_MOk mt_prog mt_X2_withOneMore := ax_MOk_of ch_X2_withOneMore (List.forall_mem_cons.mpr ⟨ct_X2_withOneMore_0, List.forall_mem_cons.mpr ⟨ct_X2_withOneMore_1, List.forall_mem_cons.mpr ⟨ct_X2_withOneMore_2, List.forall_mem_cons.mpr ⟨ct_X2_withOneMore_3, fun _ h => absurd h List.not_mem_nil⟩⟩⟩⟩)
set_option maxRecDepth 100000 in
theorem ct_X2_withOneLess_0 : mc_X2_withOneLess_0.all (ax_chkE mt_prog RX2 "withOneLess" cX2_withOneLess) = true := by decide +kernel
set_option maxRecDepth 100000 in
theorem ct_X2_withOneLess_1 : mc_X2_withOneLess_1.all (ax_chkE mt_prog RX2 "withOneLess" cX2_withOneLess) = true := by decide +kernel
set_option maxRecDepth 100000 in
theorem ct_X2_withOneLess_2 : mc_X2_withOneLess_2.all (ax_chkE mt_prog RX2 "withOneLess" cX2_withOneLess) = true := by decide +kernel
set_option maxRecDepth 100000 in
theorem ct_X2_withOneLess_3 : mc_X2_withOneLess_3.all (ax_chkE mt_prog RX2 "withOneLess" cX2_withOneLess) = true := by decide +kernel
set_option maxRecDepth 100000 in
theorem ch_X2_withOneLess : ax_chkH (mt_X2_withOneLess, 1064, 125) = true := by decide +kernel
theorem pk_X2_withOneLess : ax_MOk mt_prog mt_X2_withOneLess := ax_MOk_of ch_X2_withOneLess (List.forall_mem_cons.mpr ⟨ct_X2_withOneLess_0, List.forall_mem_cons.mpr ⟨ct_X2_withOneLess_1, List.forall_mem_cons.mpr ⟨ct_X2_withOneLess_2, List.forall_mem_cons.mpr ⟨ct_X2_withOneLess_3, fun _ h => absurd h List.not_mem_nil⟩⟩⟩⟩)
set_option maxRecDepth 100000 in
theorem ct_X2_withOneOther_0 : mc_X2_withOneOther_0.all (ax_chkE mt_prog RX2 "withOneOther" cX2_withOneOther) = true := by decide +kernel
set_option maxRecDepth 100000 in
theorem ct_X2_withOneOther_1 : mc_X2_withOneOther_1.all (ax_chkE mt_prog RX2 "withOneOther" cX2_withOneOther) = true := by decide +kernel
set_option maxRecDepth 100000 in
theorem ct_X2_withOneOther_2 : mc_X2_withOneOther_2.all (ax_chkE mt_prog RX2 "withOneOther" cX2_withOneOther) = true := by decide +kernel
set_option maxRecDepth 100000 in
theorem ch_X2_withOneOther : ax_chkH (mt_X2_withOneOther, 1068, 125) = true := by decide +kernel
theorem pk_X2_withOneOther : ax_MOk mt_prog mt_X2_withOneOther := ax_MOk_of ch_X2_withOneOther (List.forall_mem_cons.mpr ⟨ct_X2_withOneOther_0, List.forall_mem_cons.mpr ⟨ct_X2_withOneOther_1, List.forall_mem_cons.mpr ⟨ct_X2_withOneOther_2, fun _ h => absurd h List.not_mem_nil⟩⟩⟩)
set_option maxRecDepth 100000 in
theorem ct_X2_anySignFits_0 : mc_X2_anySignFits_0.all (ax_chkE mt_prog RX2 "anySignFits" cX2_anySignFits) = true := by decide +kernel
set_option maxRecDepth 100000 in
theorem ct_X2_anySignFits_1 : mc_X2_anySignFits_1.all (ax_chkE mt_prog RX2 "anySignFits" cX2_anySignFits) = true := by decide +kernel
set_option maxRecDepth 100000 in
theorem ch_X2_anySignFits : ax_chkH (mt_X2_anySignFits, 1056, 125) = true := by decide +kernel
theorem pk_X2_anySignFits : ax_MOk mt_prog mt_X2_anySignFits := ax_MOk_of ch_X2_anySignFits (List.forall_mem_cons.mpr ⟨ct_X2_anySignFits_0, List.forall_mem_cons.mpr ⟨ct_X2_anySignFits_1, fun _ h => absurd h List.not_mem_nil⟩⟩)
set_option maxRecDepth 100000 in
theorem ct_X2_foundSlip_0 : mc_X2_foundSlip_0.all (ax_chkE mt_prog RX2 "foundSlip" cX2_foundSlip) = true := by decide +kernel
set_option maxRecDepth 100000 in
theorem ch_X2_foundSlip : ax_chkH (mt_X2_foundSlip, 1060, 125) = true := by decide +kernel
theorem pk_X2_foundSlip : ax_MOk mt_prog mt_X2_foundSlip := ax_MOk_of ch_X2_foundSlip (List.forall_mem_cons.mpr ⟨ct_X2_foundSlip_0, fun _ h => absurd h List.not_mem_nil⟩)
set_option maxRecDepth 100000 in
theorem ct_X2_digestOn_0 : mc_X2_digestOn_0.all (ax_chkE mt_prog RX2 "digestOn" cX2_digestOn) = true := by decide +kernel
set_option maxRecDepth 100000 in
theorem ct_X2_digestOn_1 : mc_X2_digestOn_1.all (ax_chkE mt_prog RX2 "digestOn" cX2_digestOn) = true := by decide +kernel
set_option maxRecDepth 100000 in
theorem ch_X2_digestOn : ax_chkH (mt_X2_digestOn, 1110, 125) = true := by decide +kernel
theorem pk_X2_digestOn : ax_MOk mt_prog mt_X2_digestOn := ax_MOk_of ch_X2_digestOn (List.forall_mem_cons.mpr ⟨ct_X2_digestOn_0, List.forall_mem_cons.mpr ⟨ct_X2_digestOn_1, fun _ h => absurd h List.not_mem_nil⟩⟩)
set_option maxRecDepth 100000 in
theorem ct_X3_init_0 : mc_X3_init_0.all (ax_chkE mt_prog RX3 "<init>" cX3_init) = true := by decide +kernel
set_option maxRecDepth 100000 in
theorem ct_X3_init_1 : mc_X3_init_1.all (ax_chkE mt_prog RX3 "<init>" cX3_init) = true := by decide +kernel
set_option maxRecDepth 100000 in
theorem ch_X3_init : ax_chkH (mt_X3_init, 405, 126) = true := by decide +kernel
theorem pk_X3_init : ax_MOk mt_prog mt_X3_init := ax_MOk_of ch_X3_init (List.forall_mem_cons.mpr ⟨ct_X3_init_0, List.forall_mem_cons.mpr ⟨ct_X3_init_1, fun _ h => absurd h List.not_mem_nil⟩⟩)
