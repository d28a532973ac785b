/-! ===== the tables are checked ===== -/
set_option maxRecDepth 100000 in
theorem ct_X10_blank_0 : mc_X10_blank_0.all (ax_chkE mt_prog RX10 "blank" cX10_blank) = true := by decide +kernel
set_option maxRecDepth 100000 in
theorem ch_X10_blank : ax_chkH (mt_X10_blank, 472, 116) = true := by decide +kernel
theorem pk_X10_blank : ax_MOk mt_prog mt_X10_blank := ax_MOk_of ch_X10_blank (List.forall_mem_cons.mpr ⟨ct_X10_blank_0, fun _ h => absurd h List.not_mem_nil⟩)
set_option maxRecDepth 100000 in
theorem ct_X10_good_0 : mc_X10_good_0.all (ax_chkE mt_prog RX10 "good" cX10_good) = true := by decide +kernel
set_option maxRecDepth 100000 in
theorem ch_X10_good : ax_chkH (mt_X10_good, 476, 116) = true := by decide +kernel
theorem pk_X10_good : ax_MOk mt_prog mt_X10_good := ax_MOk_of ch_X10_good (List.forall_mem_cons.mpr ⟨ct_X10_good_0, fun _ h => absurd h List.not_mem_nil⟩)
set_option maxRecDepth 100000 in
theorem ct_X10_custom_0 : mc_X10_custom_0.all (ax_chkE mt_prog RX10 "custom" cX10_custom) = true := by decide +kernel
set_option maxRecDepth 100000 in
theorem ct_X10_custom_1 : mc_X10_custom_1.all (ax_chkE mt_prog RX10 "custom" cX10_custom) = true := by decide +kernel
set_option maxRecDepth 100000 in
theorem ct_X10_custom_2 : mc_X10_custom_2.all (ax_chkE mt_prog RX10 "custom" cX10_custom) = true := by decide +kernel
set_option maxRecDepth 100000 in
theorem ch_X10_custom : ax_chkH (mt_X10_custom, 591, 116) = true := by decide +kernel
theorem pk_X10_custom : ax_MOk mt_prog mt_X10_custom := ax_MOk_of ch_X10_custom (List.forall_mem_cons.mpr ⟨ct_X10_custom_0, List.forall_mem_cons.mpr ⟨ct_X10_custom_1, List.forall_mem_cons.mpr ⟨ct_X10_custom_2, fun _ h => absurd h List.not_mem_nil⟩⟩⟩)
set_option maxRecDepth 100000 in
theorem ct_X10_asks_0 : mc_X10_asks_0.all (ax_chkE mt_prog RX10 "asks" cX10_asks) = true := by decide +kernel
set_option maxRecDepth 100000 in
theorem ct_X10_asks_1 : mc_X10_asks_1.all (ax_chkE mt_prog RX10 "asks" cX10_asks) = true := by decide +kernel
set_option maxRecDepth 100000 in
theorem ct_X10_asks_2 : mc_X10_asks_2.all (ax_chkE mt_prog RX10 "asks" cX10_asks) = true := by decide +kernel
set_option maxRecDepth 100000 in
theorem ch_X10_asks : ax_chkH (mt_X10_asks, 652, 116) = true := by decide +kernel
theorem pk_X10_asks : ax_MOk mt_prog mt_X10_asks := ax_MOk_of ch_X10_asks (List.forall_mem_cons.mpr ⟨ct_X10_asks_0, List.forall_mem_cons.mpr ⟨ct_X10_asks_1, List.forall_mem_cons.mpr ⟨ct_X10_asks_2, fun _ h => absurd h List.not_mem_nil⟩⟩⟩)
set_option maxRecDepth 100000 in
theorem ct_X10_row_0 : mc_X10_row_0.all (ax_chkE mt_prog RX10 "row" cX10_row) = true := by decide +kernel
set_option maxRecDepth 100000 in
theorem ct_X10_row_1 : mc_X10_row_1.all (ax_chkE mt_prog RX10 "row" cX10_row) = true := by decide +kernel
set_option maxRecDepth 100000 in
theorem ch_X10_row : ax_chkH (mt_X10_row, 660, 116) = true := by decide +kernel
theorem pk_X10_row : ax_MOk mt_prog mt_X10_row := ax_MOk_of ch_X10_row (List.forall_mem_cons.mpr ⟨ct_X10_row_0, List.forall_mem_cons.mpr ⟨ct_X10_row_1, fun _ h => absurd h List.not_mem_nil⟩⟩)
set_option maxRecDepth 100000 in
theorem ct_X10_sign_0 : mc_X10_sign_0.all (ax_chkE mt_prog RX10 "sign" cX10_sign) = true := by decide +kernel
set_option maxRecDepth 100000 in
theorem ct_X10_sign_1 : mc_X10_sign_1.all (ax_chkE mt_prog RX10 "sign" cX10_sign) = true := by decide +kernel
set_option maxRecDepth 100000 in
theorem ch_X10_sign : ax_chkH (mt_X10_sign, 680, 116) = true := by decide +kernel
theorem pk_X10_sign : ax_MOk mt_prog mt_X10_sign := ax_MOk_of ch_X10_sign (List.forall_mem_cons.mpr ⟨ct_X10_sign_0, List.forall_mem_cons.mpr ⟨ct_X10_sign_1, fun _ h => absurd h List.not_mem_nil⟩⟩)
set_option maxRecDepth 100000 in
theorem ct_X10_worth_0 : mc_X10_worth_0.all (ax_chkE mt_prog RX10 "worth" cX10_worth) = true := by decide +kernel
set_option maxRecDepth 100000 in
theorem ch_X10_worth : ax_chkH (mt_X10_worth, 684, 116) = true := by decide +kernel
theorem pk_X10_worth : ax_MOk mt_prog mt_X10_worth := ax_MOk_of ch_X10_worth (List.forall_mem_cons.mpr ⟨ct_X10_worth_0, fun _ h => absurd h List.not_mem_nil⟩)
set_option maxRecDepth 100000 in
theorem ct_X10_keeps_0 : mc_X10_keeps_0.all (ax_chkE mt_prog RX10 "keeps" cX10_keeps) = true := by decide +kernel
set_option maxRecDepth 100000 in
theorem ct_X10_keeps_1 : mc_X10_keeps_1.all (ax_chkE mt_prog RX10 "keeps" cX10_keeps) = true := by decide +kernel
set_option maxRecDepth 100000 in
theorem ch_X10_keeps : ax_chkH (mt_X10_keeps, 698, 116) = true := by decide +kernel
theorem pk_X10_keeps : ax_MOk mt_prog mt_X10_keeps := ax_MOk_of ch_X10_keeps (List.forall_mem_cons.mpr ⟨ct_X10_keeps_0, List.forall_mem_cons.mpr ⟨ct_X10_keeps_1, fun _ h => absurd h List.not_mem_nil⟩⟩)
set_option maxRecDepth 100000 in
theorem ct_X10_begins_0 : mc_X10_begins_0.all (ax_chkE mt_prog RX10 "begins" cX10_begins) = true := by decide +kernel
set_option maxRecDepth 100000 in
theorem ct_X10_begins_1 : mc_X10_begins_1.all (ax_chkE mt_prog RX10 "begins" cX10_begins) = true := by decide +kernel
set_option maxRecDepth 100000 in
theorem ch_X10_begins : ax_chkH (mt_X10_begins, 703, 116) = true := by decide +kernel
theorem pk_X10_begins : ax_MOk mt_prog mt_X10_begins := ax_MOk_of ch_X10_begins (List.forall_mem_cons.mpr ⟨ct_X10_begins_0, List.forall_mem_cons.mpr ⟨ct_X10_begins_1, fun _ h => absurd h List.not_mem_nil⟩⟩)
set_option maxRecDepth 100000 in
theorem ct_X10_ways_0 : mc_X10_ways_0.all (ax_chkE mt_prog RX10 "ways" cX10_ways) = true := by decide +kernel
set_option maxRecDepth 100000 in
theorem ct_X10_ways_1 : mc_X10_ways_1.all (ax_chkE mt_prog RX10 "ways" cX10_ways) = true := by decide +kernel
set_option maxRecDepth 100000 in
theorem ct_X10_ways_2 : mc_X10_ways_2.all (ax_chkE mt_prog RX10 "ways" cX10_ways) = true := by decide +kernel
set_option maxRecDepth 100000 in
theorem ch_X10_ways : ax_chkH (mt_X10_ways, 711, 116) = true := by decide +kernel
theorem pk_X10_ways : ax_MOk mt_prog mt_X10_ways := ax_MOk_of ch_X10_ways (List.forall_mem_cons.mpr ⟨ct_X10_ways_0, List.forall_mem_cons.mpr ⟨ct_X10_ways_1, List.forall_mem_cons.mpr ⟨ct_X10_ways_2, fun _ h => absurd h List.not_mem_nil⟩⟩⟩)
set_option maxRecDepth 100000 in
theorem ct_X10_write_0 : mc_X10_write_0.all (ax_chkE mt_prog RX10 "write" cX10_write) = true := by decide +kernel
set_option maxRecDepth 100000 in
theorem ct_X10_write_1 : mc_X10_write_1.all (ax_chkE mt_prog RX10 "write" cX10_write) = true := by decide +kernel
set_option maxRecDepth 100000 in
theorem ct_X10_write_2 : mc_X10_write_2.all (ax_chkE mt_prog RX10 "write" cX10_write) = true := by decide +kernel
set_option maxRecDepth 100000 in
theorem ct_X10_write_3 : mc_X10_write_3.all (ax_chkE mt_prog RX10 "write" cX10_write) = true := by decide +kernel
set_option maxRecDepth 100000 in
theorem ct_X10_write_4 : mc_X10_write_4.all (ax_chkE mt_prog RX10 "write" cX10_write) = true := by decide +kernel
set_option maxRecDepth 100000 in
theorem ch_X10_write : ax_chkH (mt_X10_write, 758, 116) = true := by decide +kernel
theorem pk_X10_write : ax_MOk mt_prog mt_X10_write := ax_MOk_of ch_X10_write (List.forall_mem_cons.mpr ⟨ct_X10_write_0, List.forall_mem_cons.mpr ⟨ct_X10_write_1, List.forall_mem_cons.mpr ⟨ct_X10_write_2, List.forall_mem_cons.mpr ⟨ct_X10_write_3, List.forall_mem_cons.mpr ⟨ct_X10_write_4, fun _ h => absurd h List.not_mem_nil⟩⟩⟩⟩⟩)
set_option maxRecDepth 100000 in
theorem ct_X10_board_0 : mc_X10_board_0.all (ax_chkE mt_prog RX10 "board" cX10_board) = true := by decide +kernel
set_option maxRecDepth 100000 in
theorem ct_X10_board_1 : mc_X10_board_1.all (ax_chkE mt_prog RX10 "board" cX10_board) = true := by decide +kernel
set_option maxRecDepth 100000 in
theorem ch_X10_board : ax_chkH (mt_X10_board, 796, 116) = true := by decide +kernel
theorem pk_X10_board : ax_MOk mt_prog mt_X10_board := ax_MOk_of ch_X10_board (List.forall_mem_cons.mpr ⟨ct_X10_board_0, List.forall_mem_cons.mpr ⟨ct_X10_board_1, fun _ h => absurd h List.not_mem_nil⟩⟩)
set_option maxRecDepth 100000 in
theorem ct_X10_pour_0 : mc_X10_pour_0.all (ax_chkE mt_prog RX10 "pour" cX10_pour) = true := by decide +kernel
set_option maxRecDepth 100000 in
theorem ct_X10_pour_1 : mc_X10_pour_1.all (ax_chkE mt_prog RX10 "pour" cX10_pour) = true := by decide +kernel
set_option maxRecDepth 100000 in
theorem ch_X10_pour : ax_chkH (mt_X10_pour, 800, 116) = true := by decide +kernel
theorem pk_X10_pour : ax_MOk mt_prog mt_X10_pour := ax_MOk_of ch_X10_pour (List.forall_mem_cons.mpr ⟨ct_X10_pour_0, List.forall_mem_cons.mpr ⟨ct_X10_pour_1, fun _ h => absurd h List.not_mem_nil⟩⟩)
set_option maxRecDepth 100000 in
theorem ct_X10_bundle_0 : mc_X10_bundle_0.all (ax_chkE mt_prog RX10 "bundle" cX10_bundle) = true := by decide +kernel
set_option maxRecDepth 100000 in
theorem ct_X10_bundle_1 : mc_X10_bundle_1.all (ax_chkE mt_prog RX10 "bundle" cX10_bundle) = true := by decide +kernel
set_option maxRecDepth 100000 in
theorem ch_X10_bundle : ax_chkH (mt_X10_bundle, 820, 116) = true := by decide +kernel
theorem pk_X10_bundle : ax_MOk mt_prog mt_X10_bundle := ax_MOk_of ch_X10_bundle (List.forall_mem_cons.mpr ⟨ct_X10_bundle_0, List.forall_mem_cons.mpr ⟨ct_X10_bundle_1, fun _ h => absurd h List.not_mem_nil⟩⟩)
set_option maxRecDepth 100000 in
theorem ct_X10_unbundle_0 : mc_X10_unbundle_0.all (ax_chkE mt_prog RX10 "unbundle" cX10_unbundle) = true := by decide +kernel
set_option maxRecDepth 100000 in
theorem ct_X10_unbundle_1 : mc_X10_unbundle_1.all (ax_chkE mt_prog RX10 "unbundle" cX10_unbundle) = true := by decide +kernel
set_option maxRecDepth 100000 in
theorem ch_X10_unbundle : ax_chkH (mt_X10_unbundle, 834, 116) = true := by decide +kernel
theorem pk_X10_unbundle : ax_MOk mt_prog mt_X10_unbundle := ax_MOk_of ch_X10_unbundle (List.forall_mem_cons.mpr ⟨ct_X10_unbundle_0, List.forall_mem_cons.mpr ⟨ct_X10_unbundle_1, fun _ h => absurd h List.not_mem_nil⟩⟩)
set_option maxRecDepth 100000 in
theorem ct_X10_settle_0 : mc_X10_settle_0.all (ax_chkE mt_prog RX10 "settle" cX10_settle) = true := by decide +kernel
set_option maxRecDepth 100000 in
theorem ch_X10_settle : ax_chkH (mt_X10_settle, 842, 116) = true := by decide +kernel
theorem pk_X10_settle : ax_MOk mt_prog mt_X10_settle := ax_MOk_of ch_X10_settle (List.forall_mem_cons.mpr ⟨ct_X10_settle_0, fun _ h => absurd h List.not_mem_nil⟩)
set_option maxRecDepth 100000 in
theorem ct_X10_step_0 : mc_X10_step_0.all (ax_chkE mt_prog RX10 "step" cX10_step) = true := by decide +kernel
set_option maxRecDepth 100000 in
theorem ch_X10_step : ax_chkH (mt_X10_step, 865, 116) = true := by decide +kernel
theorem pk_X10_step : ax_MOk mt_prog mt_X10_step := ax_MOk_of ch_X10_step (List.forall_mem_cons.mpr ⟨ct_X10_step_0, fun _ h => absurd h List.not_mem_nil⟩)
set_option maxRecDepth 100000 in
theorem ct_X10_holds_0 : mc_X10_holds_0.all (ax_chkE mt_prog RX10 "holds" cX10_holds) = true := by decide +kernel
set_option maxRecDepth 100000 in
theorem ch_X10_holds : ax_chkH (mt_X10_holds, 869, 116) = true := by decide +kernel
theorem pk_X10_holds : ax_MOk mt_prog mt_X10_holds := ax_MOk_of ch_X10_holds (List.forall_mem_cons.mpr ⟨ct_X10_holds_0, fun _ h => absurd h List.not_mem_nil⟩)
set_option maxRecDepth 100000 in
theorem ct_X10_lift_0 : mc_X10_lift_0.all (ax_chkE mt_prog RX10 "lift" cX10_lift) = true := by decide +kernel
set_option maxRecDepth 100000 in
theorem ct_X10_lift_1 : mc_X10_lift_1.all (ax_chkE mt_prog RX10 "lift" cX10_lift) = true := by decide +kernel
set_option maxRecDepth 100000 in
theorem ch_X10_lift : ax_chkH (mt_X10_lift, 878, 116) = true := by decide +kernel
theorem pk_X10_lift : ax_MOk mt_prog mt_X10_lift := ax_MOk_of ch_X10_lift (List.forall_mem_cons.mpr ⟨ct_X10_lift_0, List.forall_mem_cons.mpr ⟨ct_X10_lift_1, fun _ h => absurd h List.not_mem_nil⟩⟩)
