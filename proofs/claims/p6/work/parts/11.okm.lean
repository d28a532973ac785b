/-! ===== the tables are checked ===== -/
set_option maxRecDepth 100000 in
theorem ct_X11_mayCome_0 : mc_X11_mayCome_0.all (ax_chkE mt_prog RX11 "mayCome" cX11_mayCome) = true := by decide +kernel
set_option maxRecDepth 100000 in
theorem ct_X11_mayCome_1 : mc_X11_mayCome_1.all (ax_chkE mt_prog RX11 "mayCome" cX11_mayCome) = true := by decide +kernel
set_option maxRecDepth 100000 in
theorem ct_X11_mayCome_2 : mc_X11_mayCome_2.all (ax_chkE mt_prog RX11 "mayCome" cX11_mayCome) = true := by decide +kernel
set_option maxRecDepth 100000 in
theorem ch_X11_mayCome : ax_chkH (mt_X11_mayCome, 1390, 127) = true := by decide +kernel
theorem pk_X11_mayCome : ax_MOk mt_prog mt_X11_mayCome := ax_MOk_of ch_X11_mayCome (List.forall_mem_cons.mpr ⟨ct_X11_mayCome_0, List.forall_mem_cons.mpr ⟨ct_X11_mayCome_1, List.forall_mem_cons.mpr ⟨ct_X11_mayCome_2, fun _ h => absurd h List.not_mem_nil⟩⟩⟩)
set_option maxRecDepth 100000 in
theorem ct_X11_signsOf_0 : mc_X11_signsOf_0.all (ax_chkE mt_prog RX11 "signsOf" cX11_signsOf) = true := by decide +kernel
set_option maxRecDepth 100000 in
theorem ch_X11_signsOf : ax_chkH (mt_X11_signsOf, 1386, 127) = true := by decide +kernel
theorem pk_X11_signsOf : ax_MOk mt_prog mt_X11_signsOf := ax_MOk_of ch_X11_signsOf (List.forall_mem_cons.mpr ⟨ct_X11_signsOf_0, fun _ h => absurd h List.not_mem_nil⟩)
set_option maxRecDepth 100000 in
theorem ct_X11_worthBy_0 : mc_X11_worthBy_0.all (ax_chkE mt_prog RX11 "worthBy" cX11_worthBy) = true := by decide +kernel
set_option maxRecDepth 100000 in
theorem ct_X11_worthBy_1 : mc_X11_worthBy_1.all (ax_chkE mt_prog RX11 "worthBy" cX11_worthBy) = true := by decide +kernel
set_option maxRecDepth 100000 in
theorem ct_X11_worthBy_2 : mc_X11_worthBy_2.all (ax_chkE mt_prog RX11 "worthBy" cX11_worthBy) = true := by decide +kernel
set_option maxRecDepth 100000 in
theorem ch_X11_worthBy : ax_chkH (mt_X11_worthBy, 1383, 127) = true := by decide +kernel
theorem pk_X11_worthBy : ax_MOk mt_prog mt_X11_worthBy := ax_MOk_of ch_X11_worthBy (List.forall_mem_cons.mpr ⟨ct_X11_worthBy_0, List.forall_mem_cons.mpr ⟨ct_X11_worthBy_1, List.forall_mem_cons.mpr ⟨ct_X11_worthBy_2, fun _ h => absurd h List.not_mem_nil⟩⟩⟩)
set_option maxRecDepth 100000 in
theorem ct_X11_isAllowed_0 : mc_X11_isAllowed_0.all (ax_chkE mt_prog RX11 "isAllowed" cX11_isAllowed) = true := by decide +kernel
set_option maxRecDepth 100000 in
theorem ct_X11_isAllowed_1 : mc_X11_isAllowed_1.all (ax_chkE mt_prog RX11 "isAllowed" cX11_isAllowed) = true := by decide +kernel
set_option maxRecDepth 100000 in
theorem ct_X11_isAllowed_2 : mc_X11_isAllowed_2.all (ax_chkE mt_prog RX11 "isAllowed" cX11_isAllowed) = true := by decide +kernel
set_option maxRecDepth 100000 in
theorem ch_X11_isAllowed : ax_chkH (mt_X11_isAllowed, 1379, 127) = true := by decide +kernel
theorem pk_X11_isAllowed : ax_MOk mt_prog mt_X11_isAllowed := ax_MOk_of ch_X11_isAllowed (List.forall_mem_cons.mpr ⟨ct_X11_isAllowed_0, List.forall_mem_cons.mpr ⟨ct_X11_isAllowed_1, List.forall_mem_cons.mpr ⟨ct_X11_isAllowed_2, fun _ h => absurd h List.not_mem_nil⟩⟩⟩)
set_option maxRecDepth 100000 in
theorem ct_X11_nextWay_0 : mc_X11_nextWay_0.all (ax_chkE mt_prog RX11 "nextWay" cX11_nextWay) = true := by decide +kernel
set_option maxRecDepth 100000 in
theorem ct_X11_nextWay_1 : mc_X11_nextWay_1.all (ax_chkE mt_prog RX11 "nextWay" cX11_nextWay) = true := by decide +kernel
set_option maxRecDepth 100000 in
theorem ct_X11_nextWay_2 : mc_X11_nextWay_2.all (ax_chkE mt_prog RX11 "nextWay" cX11_nextWay) = true := by decide +kernel
set_option maxRecDepth 100000 in
theorem ct_X11_nextWay_3 : mc_X11_nextWay_3.all (ax_chkE mt_prog RX11 "nextWay" cX11_nextWay) = true := by decide +kernel
set_option maxRecDepth 100000 in
theorem ch_X11_nextWay : ax_chkH (mt_X11_nextWay, 1375, 127) = true := by decide +kernel
theorem pk_X11_nextWay : ax_MOk mt_prog mt_X11_nextWay := ax_MOk_of ch_X11_nextWay (List.forall_mem_cons.mpr ⟨ct_X11_nextWay_0, List.forall_mem_cons.mpr ⟨ct_X11_nextWay_1, List.forall_mem_cons.mpr ⟨ct_X11_nextWay_2, List.forall_mem_cons.mpr ⟨ct_X11_nextWay_3, fun _ h => absurd h List.not_mem_nil⟩⟩⟩⟩)
set_option maxRecDepth 100000 in
theorem ct_X11_seek_0 : mc_X11_seek_0.all (ax_chkE mt_prog RX11 "seek" cX11_seek) = true := by decide +kernel
set_option maxRecDepth 100000 in
theorem ct_X11_seek_1 : mc_X11_seek_1.all (ax_chkE mt_prog RX11 "seek" cX11_seek) = true := by decide +kernel
set_option maxRecDepth 100000 in
theorem ct_X11_seek_2 : mc_X11_seek_2.all (ax_chkE mt_prog RX11 "seek" cX11_seek) = true := by decide +kernel
set_option maxRecDepth 100000 in
theorem ct_X11_seek_3 : mc_X11_seek_3.all (ax_chkE mt_prog RX11 "seek" cX11_seek) = true := by decide +kernel
set_option maxRecDepth 100000 in
theorem ct_X11_seek_4 : mc_X11_seek_4.all (ax_chkE mt_prog RX11 "seek" cX11_seek) = true := by decide +kernel
set_option maxRecDepth 100000 in
theorem ct_X11_seek_5 : mc_X11_seek_5.all (ax_chkE mt_prog RX11 "seek" cX11_seek) = true := by decide +kernel
set_option maxRecDepth 100000 in
theorem ct_X11_seek_6 : mc_X11_seek_6.all (ax_chkE mt_prog RX11 "seek" cX11_seek) = true := by decide +kernel
set_option maxRecDepth 100000 in
theorem ct_X11_seek_7 : mc_X11_seek_7.all (ax_chkE mt_prog RX11 "seek" cX11_seek) = true := by decide +kernel
set_option maxRecDepth 100000 in
theorem ch_X11_seek : ax_chkH (mt_X11_seek, 1360, 127) = true := by decide +kernel
theorem pk_X11_seek : ax_MOk mt_prog mt_X11_seek := ax_MOk_of ch_X11_seek (List.forall_mem_cons.mpr ⟨ct_X11_seek_0, List.forall_mem_cons.mpr ⟨ct_X11_seek_1, List.forall_mem_cons.mpr ⟨ct_X11_seek_2, List.forall_mem_cons.mpr ⟨ct_X11_seek_3, List.forall_mem_cons.mpr ⟨ct_X11_seek_4, List.forall_mem_cons.mpr ⟨ct_X11_seek_5, List.forall_mem_cons.mpr ⟨ct_X11_seek_6, List.forall_mem_cons.mpr ⟨ct_X11_seek_7, fun _ h => absurd h List.not_mem_nil⟩⟩⟩⟩⟩⟩⟩⟩)
set_option maxRecDepth 100000 in
theorem ct_X11_down_0 : mc_X11_down_0.all (ax_chkE mt_prog RX11 "down" cX11_down) = true := by decide +kernel
set_option maxRecDepth 100000 in
theorem ct_X11_down_1 : mc_X11_down_1.all (ax_chkE mt_prog RX11 "down" cX11_down) = true := by decide +kernel
set_option maxRecDepth 100000 in
theorem ct_X11_down_2 : mc_X11_down_2.all (ax_chkE mt_prog RX11 "down" cX11_down) = true := by decide +kernel
set_option maxRecDepth 100000 in
theorem ch_X11_down : ax_chkH (mt_X11_down, 1402, 127) = true := by decide +kernel
theorem pk_X11_down : ax_MOk mt_prog mt_X11_down := ax_MOk_of ch_X11_down (List.forall_mem_cons.mpr ⟨ct_X11_down_0, List.forall_mem_cons.mpr ⟨ct_X11_down_1, List.forall_mem_cons.mpr ⟨ct_X11_down_2, fun _ h => absurd h List.not_mem_nil⟩⟩⟩)
set_option maxRecDepth 100000 in
theorem ct_X11_open_0 : mc_X11_open_0.all (ax_chkE mt_prog RX11 "open" cX11_open) = true := by decide +kernel
set_option maxRecDepth 100000 in
theorem ct_X11_open_1 : mc_X11_open_1.all (ax_chkE mt_prog RX11 "open" cX11_open) = true := by decide +kernel
set_option maxRecDepth 100000 in
theorem ch_X11_open : ax_chkH (mt_X11_open, 1371, 127) = true := by decide +kernel
theorem pk_X11_open : ax_MOk mt_prog mt_X11_open := ax_MOk_of ch_X11_open (List.forall_mem_cons.mpr ⟨ct_X11_open_0, List.forall_mem_cons.mpr ⟨ct_X11_open_1, fun _ h => absurd h List.not_mem_nil⟩⟩)
set_option maxRecDepth 100000 in
theorem ct_X11_noteOne_0 : mc_X11_noteOne_0.all (ax_chkE mt_prog RX11 "noteOne" cX11_noteOne) = true := by decide +kernel
set_option maxRecDepth 100000 in
theorem ct_X11_noteOne_1 : mc_X11_noteOne_1.all (ax_chkE mt_prog RX11 "noteOne" cX11_noteOne) = true := by decide +kernel
set_option maxRecDepth 100000 in
theorem ch_X11_noteOne : ax_chkH (mt_X11_noteOne, 1394, 127) = true := by decide +kernel
theorem pk_X11_noteOne : ax_MOk mt_prog mt_X11_noteOne := ax_MOk_of ch_X11_noteOne (List.forall_mem_cons.mpr ⟨ct_X11_noteOne_0, List.forall_mem_cons.mpr ⟨ct_X11_noteOne_1, fun _ h => absurd h List.not_mem_nil⟩⟩)
