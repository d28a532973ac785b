/-! ===== the tables are checked ===== -/
set_option maxRecDepth 100000 in
theorem ct_X11_firstStep_0 : mc_X11_firstStep_0.all (ax_chkE mt_prog RX11 "firstStep" cX11_firstStep) = true := by decide +kernel
set_option maxRecDepth 100000 in
theorem ct_X11_firstStep_1 : mc_X11_firstStep_1.all (ax_chkE mt_prog RX11 "firstStep" cX11_firstStep) = true := by decide +kernel
set_option maxRecDepth 100000 in
theorem ct_X11_firstStep_2 : mc_X11_firstStep_2.all (ax_chkE mt_prog RX11 "firstStep" cX11_firstStep) = true := by decide +kernel
set_option maxRecDepth 100000 in
theorem ct_X11_firstStep_3 : mc_X11_firstStep_3.all (ax_chkE mt_prog RX11 "firstStep" cX11_firstStep) = true := by decide +kernel
set_option maxRecDepth 100000 in
theorem ct_X11_firstStep_4 : mc_X11_firstStep_4.all (ax_chkE mt_prog RX11 "firstStep" cX11_firstStep) = true := by decide +kernel
set_option maxRecDepth 100000 in
theorem ch_X11_firstStep : ax_chkH (mt_X11_firstStep, 1441, 127) = true := by decide +kernel
theorem pk_X11_firstStep : ax_MOk mt_prog mt_X11_firstStep := ax_MOk_of ch_X11_firstStep (List.forall_mem_cons.mpr ⟨ct_X11_firstStep_0, List.forall_mem_cons.mpr ⟨ct_X11_firstStep_1, List.forall_mem_cons.mpr ⟨ct_X11_firstStep_2, List.forall_mem_cons.mpr ⟨ct_X11_firstStep_3, List.forall_mem_cons.mpr ⟨ct_X11_firstStep_4, fun _ h => absurd h List.not_mem_nil⟩⟩⟩⟩⟩)
set_option maxRecDepth 100000 in
theorem ct_X11_doStep_0 : mc_X11_doStep_0.all (ax_chkE mt_prog RX11 "doStep" cX11_doStep) = true := by decide +kernel
set_option maxRecDepth 100000 in
theorem ct_X11_doStep_1 : mc_X11_doStep_1.all (ax_chkE mt_prog RX11 "doStep" cX11_doStep) = true := by decide +kernel
set_option maxRecDepth 100000 in
theorem ch_X11_doStep : ax_chkH (mt_X11_doStep, 1445, 127) = true := by decide +kernel
theorem pk_X11_doStep : ax_MOk mt_prog mt_X11_doStep := ax_MOk_of ch_X11_doStep (List.forall_mem_cons.mpr ⟨ct_X11_doStep_0, List.forall_mem_cons.mpr ⟨ct_X11_doStep_1, fun _ h => absurd h List.not_mem_nil⟩⟩)
set_option maxRecDepth 100000 in
theorem ct_X11_settle_0 : mc_X11_settle_0.all (ax_chkE mt_prog RX11 "settle" cX11_settle) = true := by decide +kernel
set_option maxRecDepth 100000 in
theorem ct_X11_settle_1 : mc_X11_settle_1.all (ax_chkE mt_prog RX11 "settle" cX11_settle) = true := by decide +kernel
set_option maxRecDepth 100000 in
theorem ct_X11_settle_2 : mc_X11_settle_2.all (ax_chkE mt_prog RX11 "settle" cX11_settle) = true := by decide +kernel
set_option maxRecDepth 100000 in
theorem ch_X11_settle : ax_chkH (mt_X11_settle, 1437, 127) = true := by decide +kernel
theorem pk_X11_settle : ax_MOk mt_prog mt_X11_settle := ax_MOk_of ch_X11_settle (List.forall_mem_cons.mpr ⟨ct_X11_settle_0, List.forall_mem_cons.mpr ⟨ct_X11_settle_1, List.forall_mem_cons.mpr ⟨ct_X11_settle_2, fun _ h => absurd h List.not_mem_nil⟩⟩⟩)
set_option maxRecDepth 100000 in
theorem ct_X11_step_0 : mc_X11_step_0.all (ax_chkE mt_prog RX11 "step" cX11_step) = true := by decide +kernel
set_option maxRecDepth 100000 in
theorem ch_X11_step : ax_chkH (mt_X11_step, 1451, 127) = true := by decide +kernel
theorem pk_X11_step : ax_MOk mt_prog mt_X11_step := ax_MOk_of ch_X11_step (List.forall_mem_cons.mpr ⟨ct_X11_step_0, fun _ h => absurd h List.not_mem_nil⟩)
set_option maxRecDepth 100000 in
theorem ct_X11_holds_0 : mc_X11_holds_0.all (ax_chkE mt_prog RX11 "holds" cX11_holds) = true := by decide +kernel
set_option maxRecDepth 100000 in
theorem ct_X11_holds_1 : mc_X11_holds_1.all (ax_chkE mt_prog RX11 "holds" cX11_holds) = true := by decide +kernel
set_option maxRecDepth 100000 in
theorem ch_X11_holds : ax_chkH (mt_X11_holds, 1455, 127) = true := by decide +kernel
theorem pk_X11_holds : ax_MOk mt_prog mt_X11_holds := ax_MOk_of ch_X11_holds (List.forall_mem_cons.mpr ⟨ct_X11_holds_0, List.forall_mem_cons.mpr ⟨ct_X11_holds_1, fun _ h => absurd h List.not_mem_nil⟩⟩)
set_option maxRecDepth 100000 in
theorem ct_X11_lift_0 : mc_X11_lift_0.all (ax_chkE mt_prog RX11 "lift" cX11_lift) = true := by decide +kernel
set_option maxRecDepth 100000 in
theorem ct_X11_lift_1 : mc_X11_lift_1.all (ax_chkE mt_prog RX11 "lift" cX11_lift) = true := by decide +kernel
set_option maxRecDepth 100000 in
theorem ct_X11_lift_2 : mc_X11_lift_2.all (ax_chkE mt_prog RX11 "lift" cX11_lift) = true := by decide +kernel
set_option maxRecDepth 100000 in
theorem ct_X11_lift_3 : mc_X11_lift_3.all (ax_chkE mt_prog RX11 "lift" cX11_lift) = true := by decide +kernel
set_option maxRecDepth 100000 in
theorem ct_X11_lift_4 : mc_X11_lift_4.all (ax_chkE mt_prog RX11 "lift" cX11_lift) = true := by decide +kernel
set_option maxRecDepth 100000 in
theorem ch_X11_lift : ax_chkH (mt_X11_lift, 1459, 127) = true := by decide +kernel
theorem pk_X11_lift : ax_MOk mt_prog mt_X11_lift := ax_MOk_of ch_X11_lift (List.forall_mem_cons.mpr ⟨ct_X11_lift_0, List.forall_mem_cons.mpr ⟨ct_X11_lift_1, List.forall_mem_cons.mpr ⟨ct_X11_lift_2, List.forall_mem_cons.mpr ⟨ct_X11_lift_3, List.forall_mem_cons.mpr ⟨ct_X11_lift_4, fun _ h => absurd h List.not_mem_nil⟩⟩⟩⟩⟩)
set_option maxRecDepth 100000 in
theorem ct_X11_sweep_0 : mc_X11_sweep_0.all (ax_chkE mt_prog RX11 "sweep" cX11_sweep) = true := by decide +kernel
set_option maxRecDepth 100000 in
theorem ct_X11_sweep_1 : mc_X11_sweep_1.all (ax_chkE mt_prog RX11 "sweep" cX11_sweep) = true := by decide +kernel
set_option maxRecDepth 100000 in
theorem ch_X11_sweep : ax_chkH (mt_X11_sweep, 1463, 127) = true := by decide +kernel
theorem pk_X11_sweep : ax_MOk mt_prog mt_X11_sweep := ax_MOk_of ch_X11_sweep (List.forall_mem_cons.mpr ⟨ct_X11_sweep_0, List.forall_mem_cons.mpr ⟨ct_X11_sweep_1, fun _ h => absurd h List.not_mem_nil⟩⟩)
set_option maxRecDepth 100000 in
theorem ct_X11_times_0 : mc_X11_times_0.all (ax_chkE mt_prog RX11 "times" cX11_times) = true := by decide +kernel
set_option maxRecDepth 100000 in
theorem ct_X11_times_1 : mc_X11_times_1.all (ax_chkE mt_prog RX11 "times" cX11_times) = true := by decide +kernel
set_option maxRecDepth 100000 in
theorem ct_X11_times_2 : mc_X11_times_2.all (ax_chkE mt_prog RX11 "times" cX11_times) = true := by decide +kernel
set_option maxRecDepth 100000 in
theorem ct_X11_times_3 : mc_X11_times_3.all (ax_chkE mt_prog RX11 "times" cX11_times) = true := by decide +kernel
set_option maxRecDepth 100000 in
theorem ct_X11_times_4 : mc_X11_times_4.all (ax_chkE mt_prog RX11 "times" cX11_times) = true := by decide +kernel
set_option maxRecDepth 100000 in
theorem ch_X11_times : ax_chkH (mt_X11_times, 1467, 127) = true := by decide +kernel
theorem pk_X11_times : ax_MOk mt_prog mt_X11_times := ax_MOk_of ch_X11_times (List.forall_mem_cons.mpr ⟨ct_X11_times_0, List.forall_mem_cons.mpr ⟨ct_X11_times_1, List.forall_mem_cons.mpr ⟨ct_X11_times_2, List.forall_mem_cons.mpr ⟨ct_X11_times_3, List.forall_mem_cons.mpr ⟨ct_X11_times_4, fun _ h => absurd h List.not_mem_nil⟩⟩⟩⟩⟩)
set_option maxRecDepth 100000 in
theorem ct_X11_parts_0 : mc_X11_parts_0.all (ax_chkE mt_prog RX11 "parts" cX11_parts) = true := by decide +kernel
set_option maxRecDepth 100000 in
theorem ct_X11_parts_1 : mc_X11_parts_1.all (ax_chkE mt_prog RX11 "parts" cX11_parts) = true := by decide +kernel
set_option maxRecDepth 100000 in
theorem ct_X11_parts_2 : mc_X11_parts_2.all (ax_chkE mt_prog RX11 "parts" cX11_parts) = true := by decide +kernel
set_option maxRecDepth 100000 in
theorem ct_X11_parts_3 : mc_X11_parts_3.all (ax_chkE mt_prog RX11 "parts" cX11_parts) = true := by decide +kernel
set_option maxRecDepth 100000 in
theorem ct_X11_parts_4 : mc_X11_parts_4.all (ax_chkE mt_prog RX11 "parts" cX11_parts) = true := by decide +kernel
set_option maxRecDepth 100000 in
theorem ch_X11_parts : ax_chkH (mt_X11_parts, 1471, 127) = true := by decide +kernel
theorem pk_X11_parts : ax_MOk mt_prog mt_X11_parts := ax_MOk_of ch_X11_parts (List.forall_mem_cons.mpr ⟨ct_X11_parts_0, List.forall_mem_cons.mpr ⟨ct_X11_parts_1, List.forall_mem_cons.mpr ⟨ct_X11_parts_2, List.forall_mem_cons.mpr ⟨ct_X11_parts_3, List.forall_mem_cons.mpr ⟨ct_X11_parts_4, fun _ h => absurd h List.not_mem_nil⟩⟩⟩⟩⟩)
