/-! ===== the tables are checked ===== -/
set_option maxRecDepth 100000 in
theorem ct_X11_isTaken_0 : mc_X11_isTaken_0.all (ax_chkE mt_prog RX11 "isTaken" cX11_isTaken) = true := by decide +kernel
set_option maxRecDepth 100000 in
theorem ct_X11_isTaken_1 : mc_X11_isTaken_1.all (ax_chkE mt_prog RX11 "isTaken" cX11_isTaken) = true := by decide +kernel
set_option maxRecDepth 100000 in
theorem ch_X11_isTaken : ax_chkH (mt_X11_isTaken, 1330, 127) = true := by decide +kernel
theorem pk_X11_isTaken : ax_MOk mt_prog mt_X11_isTaken := ax_MOk_of ch_X11_isTaken (List.forall_mem_cons.mpr ⟨ct_X11_isTaken_0, List.forall_mem_cons.mpr ⟨ct_X11_isTaken_1, fun _ h => absurd h List.not_mem_nil⟩⟩)
set_option maxRecDepth 100000 in
theorem ct_X11_worthOf_0 : mc_X11_worthOf_0.all (ax_chkE mt_prog RX11 "worthOf" cX11_worthOf) = true := by decide +kernel
set_option maxRecDepth 100000 in
theorem ct_X11_worthOf_1 : mc_X11_worthOf_1.all (ax_chkE mt_prog RX11 "worthOf" cX11_worthOf) = true := by decide +kernel
set_option maxRecDepth 100000 in
theorem ch_X11_worthOf : ax_chkH (mt_X11_worthOf, 1327, 127) = true := by decide +kernel
theorem pk_X11_worthOf : ax_MOk mt_prog mt_X11_worthOf := ax_MOk_of ch_X11_worthOf (List.forall_mem_cons.mpr ⟨ct_X11_worthOf_0, List.forall_mem_cons.mpr ⟨ct_X11_worthOf_1, fun _ h => absurd h List.not_mem_nil⟩⟩)
set_option maxRecDepth 100000 in
theorem ct_X11_worth_0 : mc_X11_worth_0.all (ax_chkE mt_prog RX11 "worth" cX11_worth) = true := by decide +kernel
set_option maxRecDepth 100000 in
theorem ch_X11_worth : ax_chkH (mt_X11_worth, 1323, 127) = true := by decide +kernel
theorem pk_X11_worth : ax_MOk mt_prog mt_X11_worth := ax_MOk_of ch_X11_worth (List.forall_mem_cons.mpr ⟨ct_X11_worth_0, fun _ h => absurd h List.not_mem_nil⟩)
set_option maxRecDepth 100000 in
theorem ct_X11_keeps_0 : mc_X11_keeps_0.all (ax_chkE mt_prog RX11 "keeps" cX11_keeps) = true := by decide +kernel
set_option maxRecDepth 100000 in
theorem ch_X11_keeps : ax_chkH (mt_X11_keeps, 1335, 127) = true := by decide +kernel
theorem pk_X11_keeps : ax_MOk mt_prog mt_X11_keeps := ax_MOk_of ch_X11_keeps (List.forall_mem_cons.mpr ⟨ct_X11_keeps_0, fun _ h => absurd h List.not_mem_nil⟩)
set_option maxRecDepth 100000 in
theorem ct_X11_begins_0 : mc_X11_begins_0.all (ax_chkE mt_prog RX11 "begins" cX11_begins) = true := by decide +kernel
set_option maxRecDepth 100000 in
theorem ch_X11_begins : ax_chkH (mt_X11_begins, 1351, 127) = true := by decide +kernel
theorem pk_X11_begins : ax_MOk mt_prog mt_X11_begins := ax_MOk_of ch_X11_begins (List.forall_mem_cons.mpr ⟨ct_X11_begins_0, fun _ h => absurd h List.not_mem_nil⟩)
set_option maxRecDepth 100000 in
theorem ct_X11_ways_0 : mc_X11_ways_0.all (ax_chkE mt_prog RX11 "ways" cX11_ways) = true := by decide +kernel
set_option maxRecDepth 100000 in
theorem ch_X11_ways : ax_chkH (mt_X11_ways, 1355, 127) = true := by decide +kernel
theorem pk_X11_ways : ax_MOk mt_prog mt_X11_ways := ax_MOk_of ch_X11_ways (List.forall_mem_cons.mpr ⟨ct_X11_ways_0, fun _ h => absurd h List.not_mem_nil⟩)
set_option maxRecDepth 100000 in
theorem ct_X11_write_0 : mc_X11_write_0.all (ax_chkE mt_prog RX11 "write" cX11_write) = true := by decide +kernel
set_option maxRecDepth 100000 in
theorem ch_X11_write : ax_chkH (mt_X11_write, 1406, 127) = true := by decide +kernel
theorem pk_X11_write : ax_MOk mt_prog mt_X11_write := ax_MOk_of ch_X11_write (List.forall_mem_cons.mpr ⟨ct_X11_write_0, fun _ h => absurd h List.not_mem_nil⟩)
set_option maxRecDepth 100000 in
theorem ct_X11_board_0 : mc_X11_board_0.all (ax_chkE mt_prog RX11 "board" cX11_board) = true := by decide +kernel
set_option maxRecDepth 100000 in
theorem ct_X11_board_1 : mc_X11_board_1.all (ax_chkE mt_prog RX11 "board" cX11_board) = true := by decide +kernel
set_option maxRecDepth 100000 in
theorem ch_X11_board : ax_chkH (mt_X11_board, 1410, 127) = true := by decide +kernel
theorem pk_X11_board : ax_MOk mt_prog mt_X11_board := ax_MOk_of ch_X11_board (List.forall_mem_cons.mpr ⟨ct_X11_board_0, List.forall_mem_cons.mpr ⟨ct_X11_board_1, fun _ h => absurd h List.not_mem_nil⟩⟩)
set_option maxRecDepth 100000 in
theorem ct_X11_onBoard_0 : mc_X11_onBoard_0.all (ax_chkE mt_prog RX11 "onBoard" cX11_onBoard) = true := by decide +kernel
set_option maxRecDepth 100000 in
theorem ct_X11_onBoard_1 : mc_X11_onBoard_1.all (ax_chkE mt_prog RX11 "onBoard" cX11_onBoard) = true := by decide +kernel
set_option maxRecDepth 100000 in
theorem ch_X11_onBoard : ax_chkH (mt_X11_onBoard, 1422, 127) = true := by decide +kernel
theorem pk_X11_onBoard : ax_MOk mt_prog mt_X11_onBoard := ax_MOk_of ch_X11_onBoard (List.forall_mem_cons.mpr ⟨ct_X11_onBoard_0, List.forall_mem_cons.mpr ⟨ct_X11_onBoard_1, fun _ h => absurd h List.not_mem_nil⟩⟩)
set_option maxRecDepth 100000 in
theorem ct_X11_pour_0 : mc_X11_pour_0.all (ax_chkE mt_prog RX11 "pour" cX11_pour) = true := by decide +kernel
set_option maxRecDepth 100000 in
theorem ct_X11_pour_1 : mc_X11_pour_1.all (ax_chkE mt_prog RX11 "pour" cX11_pour) = true := by decide +kernel
set_option maxRecDepth 100000 in
theorem ct_X11_pour_2 : mc_X11_pour_2.all (ax_chkE mt_prog RX11 "pour" cX11_pour) = true := by decide +kernel
set_option maxRecDepth 100000 in
theorem ct_X11_pour_3 : mc_X11_pour_3.all (ax_chkE mt_prog RX11 "pour" cX11_pour) = true := by decide +kernel
set_option maxRecDepth 100000 in
theorem ct_X11_pour_4 : mc_X11_pour_4.all (ax_chkE mt_prog RX11 "pour" cX11_pour) = true := by decide +kernel
set_option maxRecDepth 100000 in
theorem ct_X11_pour_5 : mc_X11_pour_5.all (ax_chkE mt_prog RX11 "pour" cX11_pour) = true := by decide +kernel
set_option maxRecDepth 100000 in
theorem ct_X11_pour_6 : mc_X11_pour_6.all (ax_chkE mt_prog RX11 "pour" cX11_pour) = true := by decide +kernel
set_option maxRecDepth 100000 in
theorem ch_X11_pour : ax_chkH (mt_X11_pour, 1414, 127) = true := by decide +kernel
theorem pk_X11_pour : ax_MOk mt_prog mt_X11_pour := ax_MOk_of ch_X11_pour (List.forall_mem_cons.mpr ⟨ct_X11_pour_0, List.forall_mem_cons.mpr ⟨ct_X11_pour_1, List.forall_mem_cons.mpr ⟨ct_X11_pour_2, List.forall_mem_cons.mpr ⟨ct_X11_pour_3, List.forall_mem_cons.mpr ⟨ct_X11_pour_4, List.forall_mem_cons.mpr ⟨ct_X11_pour_5, List.forall_mem_cons.mpr ⟨ct_X11_pour_6, fun _ h => absurd h List.not_mem_nil⟩⟩⟩⟩⟩⟩⟩)
set_option maxRecDepth 100000 in
theorem ct_X11_poured_0 : mc_X11_poured_0.all (ax_chkE mt_prog RX11 "poured" cX11_poured) = true := by decide +kernel
set_option maxRecDepth 100000 in
theorem ct_X11_poured_1 : mc_X11_poured_1.all (ax_chkE mt_prog RX11 "poured" cX11_poured) = true := by decide +kernel
set_option maxRecDepth 100000 in
theorem ct_X11_poured_2 : mc_X11_poured_2.all (ax_chkE mt_prog RX11 "poured" cX11_poured) = true := by decide +kernel
set_option maxRecDepth 100000 in
theorem ch_X11_poured : ax_chkH (mt_X11_poured, 1418, 127) = true := by decide +kernel
theorem pk_X11_poured : ax_MOk mt_prog mt_X11_poured := ax_MOk_of ch_X11_poured (List.forall_mem_cons.mpr ⟨ct_X11_poured_0, List.forall_mem_cons.mpr ⟨ct_X11_poured_1, List.forall_mem_cons.mpr ⟨ct_X11_poured_2, fun _ h => absurd h List.not_mem_nil⟩⟩⟩)
set_option maxRecDepth 100000 in
theorem ct_X11_bundleOf_0 : mc_X11_bundleOf_0.all (ax_chkE mt_prog RX11 "bundleOf" cX11_bundleOf) = true := by decide +kernel
set_option maxRecDepth 100000 in
theorem ch_X11_bundleOf : ax_chkH (mt_X11_bundleOf, 1429, 127) = true := by decide +kernel
theorem pk_X11_bundleOf : ax_MOk mt_prog mt_X11_bundleOf := ax_MOk_of ch_X11_bundleOf (List.forall_mem_cons.mpr ⟨ct_X11_bundleOf_0, fun _ h => absurd h List.not_mem_nil⟩)
set_option maxRecDepth 100000 in
theorem ct_X11_bundle_0 : mc_X11_bundle_0.all (ax_chkE mt_prog RX11 "bundle" cX11_bundle) = true := by decide +kernel
set_option maxRecDepth 100000 in
theorem ch_X11_bundle : ax_chkH (mt_X11_bundle, 1426, 127) = true := by decide +kernel
theorem pk_X11_bundle : ax_MOk mt_prog mt_X11_bundle := ax_MOk_of ch_X11_bundle (List.forall_mem_cons.mpr ⟨ct_X11_bundle_0, fun _ h => absurd h List.not_mem_nil⟩)
set_option maxRecDepth 100000 in
theorem ct_X11_unbundle_0 : mc_X11_unbundle_0.all (ax_chkE mt_prog RX11 "unbundle" cX11_unbundle) = true := by decide +kernel
set_option maxRecDepth 100000 in
theorem ch_X11_unbundle : ax_chkH (mt_X11_unbundle, 1433, 127) = true := by decide +kernel
theorem pk_X11_unbundle : ax_MOk mt_prog mt_X11_unbundle := ax_MOk_of ch_X11_unbundle (List.forall_mem_cons.mpr ⟨ct_X11_unbundle_0, fun _ h => absurd h List.not_mem_nil⟩)
set_option maxRecDepth 100000 in
theorem ct_X11_firstStep_0 : mc_X11_firstStep_0.all (ax_chkE mt_prog RX11 "firstStep" cX11_firstStep) = true := by decide +kernel
set_option maxRecDepth 100000 in
theorem ct_X11_firstStep_1 : mc_X11_firstStep_1.all (ax_chkE mt_prog RX11 "firstStep" cX11_firstStep) = true := by decide +kernel
set_option maxRecDepth 100000 in
theorem ct_X11_firstStep_2 : mc_X11_firstStep_2.all (ax_chkE mt_prog RX11 "firstStep" cX11_firstStep) = true := by decide +kernel
set_option maxRecDepth 100000 in
theorem ct_X11_firstStep_3 : mc_X11_firstStep_3.all (ax_chkE mt_prog RX11 "firstStep" cX11_firstStep) = true := by decide +kernel
set_option maxRecDepth 100000 in
theorem ct_X11_firstStep_4 : mc_X11_firstStep_4.all (ax_chkE mt_prog RX11 "firstStep" cX11_firstStep) = true := by decide +kernel
set_option maxRecDepth 100000 in
theorem ch_X11_firstStep : ax_chkH (mt_X11_firstStep, 1441, 127) = true := by decide +kernel
theorem pk_X11_firstStep : ax_MOk mt_prog mt_X11_firstStep := ax_MOk_of ch_X11_firstStep (List.forall_mem_cons.mpr ⟨ct_X11_firstStep_0, List.forall_mem_cons.mpr ⟨ct_X11_firstStep_1, List.forall_mem_cons.mpr ⟨ct_X11_firstStep_2, List.forall_mem_cons.mpr ⟨ct_X11_firstStep_3, List.forall_mem_cons.mpr ⟨ct_X11_firstStep_4, fun _ h => absurd h List.not_mem_nil⟩⟩⟩⟩⟩)
set_option maxRecDepth 100000 in
theorem ct_X11_settle_0 : mc_X11_settle_0.all (ax_chkE mt_prog RX11 "settle" cX11_settle) = true := by decide +kernel
set_option maxRecDepth 100000 in
theorem ct_X11_settle_1 : mc_X11_settle_1.all (ax_chkE mt_prog RX11 "settle" cX11_settle) = true := by decide +kernel
set_option maxRecDepth 100000 in
theorem ct_X11_settle_2 : mc_X11_settle_2.all (ax_chkE mt_prog RX11 "settle" cX11_settle) = true := by decide +kernel
set_option maxRecDepth 100000 in
theorem ch_X11_settle : ax_chkH (mt_X11_settle, 1437, 127) = true := by decide +kernel
theorem pk_X11_settle : ax_MOk mt_prog mt_X11_settle := ax_MOk_of ch_X11_settle (List.forall_mem_cons.mpr ⟨ct_X11_settle_0, List.forall_mem_cons.mpr ⟨ct_X11_settle_1, List.forall_mem_cons.mpr ⟨ct_X11_settle_2, fun _ h => absurd h List.not_mem_nil⟩⟩⟩)
set_option maxRecDepth 100000 in
theorem ct_X11_step_0 : mc_X11_step_0.all (ax_chkE mt_prog RX11 "step" cX11_step) = true := by decide +kernel
set_option maxRecDepth 100000 in
theorem ch_X11_step : ax_chkH (mt_X11_step, 1451, 127) = true := by decide +kernel
theorem pk_X11_step : ax_MOk mt_prog mt_X11_step := ax_MOk_of ch_X11_step (List.forall_mem_cons.mpr ⟨ct_X11_step_0, fun _ h => absurd h List.not_mem_nil⟩)
set_option maxRecDepth 100000 in
theorem ct_X11_holds_0 : mc_X11_holds_0.all (ax_chkE mt_prog RX11 "holds" cX11_holds) = true := by decide +kernel
set_option maxRecDepth 100000 in
theorem ct_X11_holds_1 : mc_X11_holds_1.all (ax_chkE mt_prog RX11 "holds" cX11_holds) = true := by decide +kernel
set_option maxRecDepth 100000 in
theorem ch_X11_holds : ax_chkH (mt_X11_holds, 1455, 127) = true := by decide +kernel
theorem pk_X11_holds : ax_MOk mt_prog mt_X11_holds := ax_MOk_of ch_X11_holds (List.forall_mem_cons.mpr ⟨ct_X11_holds_0, List.forall_mem_cons.mpr ⟨ct_X11_holds_1, fun _ h => absurd h List.not_mem_nil⟩⟩)
set_option maxRecDepth 100000 in
theorem ct_X11_lift_0 : mc_X11_lift_0.all (ax_chkE mt_prog RX11 "lift" cX11_lift) = true := by decide +kernel
set_option maxRecDepth 100000 in
theorem ct_X11_lift_1 : mc_X11_lift_1.all (ax_chkE mt_prog RX11 "lift" cX11_lift) = true := by decide +kernel
set_option maxRecDepth 100000 in
theorem ct_X11_lift_2 : mc_X11_lift_2.all (ax_chkE mt_prog RX11 "lift" cX11_lift) = true := by decide +kernel
set_option maxRecDepth 100000 in
theorem ch_X11_lift : ax_chkH (mt_X11_lift, 1459, 127) = true := by decide +kernel
theorem pk_X11_lift : ax_MOk mt_prog mt_X11_lift := ax_MOk_of ch_X11_lift (List.forall_mem_cons.mpr ⟨ct_X11_lift_0, List.forall_mem_cons.mpr ⟨ct_X11_lift_1, List.forall_mem_cons.mpr ⟨ct_X11_lift_2, fun _ h => absurd h List.not_mem_nil⟩⟩⟩)
