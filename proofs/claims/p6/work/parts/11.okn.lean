/-! ===== the tables are checked ===== -/
set_option maxRecDepth 100000 in
theorem ct_X11_layRow_0 : mc_X11_layRow_0.all (ax_chkE mt_prog RX11 "layRow" cX11_layRow) = true := by decide +kernel
set_option maxRecDepth 100000 in
theorem ct_X11_layRow_1 : mc_X11_layRow_1.all (ax_chkE mt_prog RX11 "layRow" cX11_layRow) = true := by decide +kernel
set_option maxRecDepth 100000 in
theorem ct_X11_layRow_2 : mc_X11_layRow_2.all (ax_chkE mt_prog RX11 "layRow" cX11_layRow) = true := by decide +kernel
set_option maxRecDepth 100000 in
theorem ct_X11_layRow_3 : mc_X11_layRow_3.all (ax_chkE mt_prog RX11 "layRow" cX11_layRow) = true := by decide +kernel
set_option maxRecDepth 100000 in
theorem ch_X11_layRow : ax_chkH (mt_X11_layRow, 1398, 127) = true := by decide +kernel
theorem pk_X11_layRow : ax_MOk mt_prog mt_X11_layRow := ax_MOk_of ch_X11_layRow (List.forall_mem_cons.mpr ⟨ct_X11_layRow_0, List.forall_mem_cons.mpr ⟨ct_X11_layRow_1, List.forall_mem_cons.mpr ⟨ct_X11_layRow_2, List.forall_mem_cons.mpr ⟨ct_X11_layRow_3, fun _ h => absurd h List.not_mem_nil⟩⟩⟩⟩)
set_option maxRecDepth 100000 in
theorem ct_X11_ways_0 : mc_X11_ways_0.all (ax_chkE mt_prog RX11 "ways" cX11_ways) = true := by decide +kernel
set_option maxRecDepth 100000 in
theorem ct_X11_ways_1 : mc_X11_ways_1.all (ax_chkE mt_prog RX11 "ways" cX11_ways) = true := by decide +kernel
set_option maxRecDepth 100000 in
theorem ch_X11_ways : ax_chkH (mt_X11_ways, 1355, 127) = true := by decide +kernel
theorem pk_X11_ways : ax_MOk mt_prog mt_X11_ways := ax_MOk_of ch_X11_ways (List.forall_mem_cons.mpr ⟨ct_X11_ways_0, List.forall_mem_cons.mpr ⟨ct_X11_ways_1, fun _ h => absurd h List.not_mem_nil⟩⟩)
set_option maxRecDepth 100000 in
theorem ct_X11_write_0 : mc_X11_write_0.all (ax_chkE mt_prog RX11 "write" cX11_write) = true := by decide +kernel
set_option maxRecDepth 100000 in
theorem ct_X11_write_1 : mc_X11_write_1.all (ax_chkE mt_prog RX11 "write" cX11_write) = true := by decide +kernel
set_option maxRecDepth 100000 in
theorem ct_X11_write_2 : mc_X11_write_2.all (ax_chkE mt_prog RX11 "write" cX11_write) = true := by decide +kernel
set_option maxRecDepth 100000 in
theorem ct_X11_write_3 : mc_X11_write_3.all (ax_chkE mt_prog RX11 "write" cX11_write) = true := by decide +kernel
set_option maxRecDepth 100000 in
theorem ct_X11_write_4 : mc_X11_write_4.all (ax_chkE mt_prog RX11 "write" cX11_write) = true := by decide +kernel
set_option maxRecDepth 100000 in
theorem ch_X11_write : ax_chkH (mt_X11_write, 1406, 127) = true := by decide +kernel
theorem pk_X11_write : ax_MOk mt_prog mt_X11_write := ax_MOk_of ch_X11_write (List.forall_mem_cons.mpr ⟨ct_X11_write_0, List.forall_mem_cons.mpr ⟨ct_X11_write_1, List.forall_mem_cons.mpr ⟨ct_X11_write_2, List.forall_mem_cons.mpr ⟨ct_X11_write_3, List.forall_mem_cons.mpr ⟨ct_X11_write_4, fun _ h => absurd h List.not_mem_nil⟩⟩⟩⟩⟩)
set_option maxRecDepth 100000 in
theorem ct_X11_board_0 : mc_X11_board_0.all (ax_chkE mt_prog RX11 "board" cX11_board) = true := by decide +kernel
set_option maxRecDepth 100000 in
theorem ct_X11_board_1 : mc_X11_board_1.all (ax_chkE mt_prog RX11 "board" cX11_board) = true := by decide +kernel
set_option maxRecDepth 100000 in
theorem ch_X11_board : ax_chkH (mt_X11_board, 1410, 127) = true := by decide +kernel
theorem pk_X11_board : ax_MOk mt_prog mt_X11_board := ax_MOk_of ch_X11_board (List.forall_mem_cons.mpr ⟨ct_X11_board_0, List.forall_mem_cons.mpr ⟨ct_X11_board_1, fun _ h => absurd h List.not_mem_nil⟩⟩)
set_option maxRecDepth 100000 in
theorem ct_X11_onBoard_0 : mc_X11_onBoard_0.all (ax_chkE mt_prog RX11 "onBoard" cX11_onBoard) = true := by decide +kernel
set_option maxRecDepth 100000 in
theorem ct_X11_onBoard_1 : mc_X11_onBoard_1.all (ax_chkE mt_prog RX11 "onBoard" cX11_onBoard) = true := by decide +kernel
set_option maxRecDepth 100000 in
theorem ch_X11_onBoard : ax_chkH (mt_X11_onBoard, 1422, 127) = true := by decide +kernel
theorem pk_X11_onBoard : ax_MOk mt_prog mt_X11_onBoard := ax_MOk_of ch_X11_onBoard (List.forall_mem_cons.mpr ⟨ct_X11_onBoard_0, List.forall_mem_cons.mpr ⟨ct_X11_onBoard_1, fun _ h => absurd h List.not_mem_nil⟩⟩)
set_option maxRecDepth 100000 in
theorem ct_X11_pour_0 : mc_X11_pour_0.all (ax_chkE mt_prog RX11 "pour" cX11_pour) = true := by decide +kernel
set_option maxRecDepth 100000 in
theorem ct_X11_pour_1 : mc_X11_pour_1.all (ax_chkE mt_prog RX11 "pour" cX11_pour) = true := by decide +kernel
set_option maxRecDepth 100000 in
theorem ct_X11_pour_2 : mc_X11_pour_2.all (ax_chkE mt_prog RX11 "pour" cX11_pour) = true := by decide +kernel
set_option maxRecDepth 100000 in
theorem ct_X11_pour_3 : mc_X11_pour_3.all (ax_chkE mt_prog RX11 "pour" cX11_pour) = true := by decide +kernel
set_option maxRecDepth 100000 in
theorem ct_X11_pour_4 : mc_X11_pour_4.all (ax_chkE mt_prog RX11 "pour" cX11_pour) = true := by decide +kernel
set_option maxRecDepth 100000 in
theorem ct_X11_pour_5 : mc_X11_pour_5.all (ax_chkE mt_prog RX11 "pour" cX11_pour) = true := by decide +kernel
set_option maxRecDepth 100000 in
theorem ct_X11_pour_6 : mc_X11_pour_6.all (ax_chkE mt_prog RX11 "pour" cX11_pour) = true := by decide +kernel
set_option maxRecDepth 100000 in
theorem ch_X11_pour : ax_chkH (mt_X11_pour, 1414, 127) = true := by decide +kernel
theorem pk_X11_pour : ax_MOk mt_prog mt_X11_pour := ax_MOk_of ch_X11_pour (List.forall_mem_cons.mpr ⟨ct_X11_pour_0, List.forall_mem_cons.mpr ⟨ct_X11_pour_1, List.forall_mem_cons.mpr ⟨ct_X11_pour_2, List.forall_mem_cons.mpr ⟨ct_X11_pour_3, List.forall_mem_cons.mpr ⟨ct_X11_pour_4, List.forall_mem_cons.mpr ⟨ct_X11_pour_5, List.forall_mem_cons.mpr ⟨ct_X11_pour_6, fun _ h => absurd h List.not_mem_nil⟩⟩⟩⟩⟩⟩⟩)
set_option maxRecDepth 100000 in
theorem ct_X11_poured_0 : mc_X11_poured_0.all (ax_chkE mt_prog RX11 "poured" cX11_poured) = true := by decide +kernel
set_option maxRecDepth 100000 in
theorem ct_X11_poured_1 : mc_X11_poured_1.all (ax_chkE mt_prog RX11 "poured" cX11_poured) = true := by decide +kernel
set_option maxRecDepth 100000 in
theorem ct_X11_poured_2 : mc_X11_poured_2.all (ax_chkE mt_prog RX11 "poured" cX11_poured) = true := by decide +kernel
set_option maxRecDepth 100000 in
theorem ch_X11_poured : ax_chkH (mt_X11_poured, 1418, 127) = true := by decide +kernel
theorem pk_X11_poured : ax_MOk mt_prog mt_X11_poured := ax_MOk_of ch_X11_poured (List.forall_mem_cons.mpr ⟨ct_X11_poured_0, List.forall_mem_cons.mpr ⟨ct_X11_poured_1, List.forall_mem_cons.mpr ⟨ct_X11_poured_2, fun _ h => absurd h List.not_mem_nil⟩⟩⟩)
set_option maxRecDepth 100000 in
theorem ct_X11_bundleOf_0 : mc_X11_bundleOf_0.all (ax_chkE mt_prog RX11 "bundleOf" cX11_bundleOf) = true := by decide +kernel
set_option maxRecDepth 100000 in
theorem ch_X11_bundleOf : ax_chkH (mt_X11_bundleOf, 1429, 127) = true := by decide +kernel
theorem pk_X11_bundleOf : ax_MOk mt_prog mt_X11_bundleOf := ax_MOk_of ch_X11_bundleOf (List.forall_mem_cons.mpr ⟨ct_X11_bundleOf_0, fun _ h => absurd h List.not_mem_nil⟩)
set_option maxRecDepth 100000 in
theorem ct_X11_bundle_0 : mc_X11_bundle_0.all (ax_chkE mt_prog RX11 "bundle" cX11_bundle) = true := by decide +kernel
set_option maxRecDepth 100000 in
theorem ct_X11_bundle_1 : mc_X11_bundle_1.all (ax_chkE mt_prog RX11 "bundle" cX11_bundle) = true := by decide +kernel
set_option maxRecDepth 100000 in
theorem ct_X11_bundle_2 : mc_X11_bundle_2.all (ax_chkE mt_prog RX11 "bundle" cX11_bundle) = true := by decide +kernel
set_option maxRecDepth 100000 in
theorem ch_X11_bundle : ax_chkH (mt_X11_bundle, 1426, 127) = true := by decide +kernel
theorem pk_X11_bundle : ax_MOk mt_prog mt_X11_bundle := ax_MOk_of ch_X11_bundle (List.forall_mem_cons.mpr ⟨ct_X11_bundle_0, List.forall_mem_cons.mpr ⟨ct_X11_bundle_1, List.forall_mem_cons.mpr ⟨ct_X11_bundle_2, fun _ h => absurd h List.not_mem_nil⟩⟩⟩)
set_option maxRecDepth 100000 in
theorem ct_X11_unbundle_0 : mc_X11_unbundle_0.all (ax_chkE mt_prog RX11 "unbundle" cX11_unbundle) = true := by decide +kernel
set_option maxRecDepth 100000 in
theorem ct_X11_unbundle_1 : mc_X11_unbundle_1.all (ax_chkE mt_prog RX11 "unbundle" cX11_unbundle) = true := by decide +kernel
set_option maxRecDepth 100000 in
theorem ct_X11_unbundle_2 : mc_X11_unbundle_2.all (ax_chkE mt_prog RX11 "unbundle" cX11_unbundle) = true := by decide +kernel
set_option maxRecDepth 100000 in
theorem ch_X11_unbundle : ax_chkH (mt_X11_unbundle, 1433, 127) = true := by decide +kernel
theorem pk_X11_unbundle : ax_MOk mt_prog mt_X11_unbundle := ax_MOk_of ch_X11_unbundle (List.forall_mem_cons.mpr ⟨ct_X11_unbundle_0, List.forall_mem_cons.mpr ⟨ct_X11_unbundle_1, List.forall_mem_cons.mpr ⟨ct_X11_unbundle_2, fun _ h => absurd h List.not_mem_nil⟩⟩⟩)
