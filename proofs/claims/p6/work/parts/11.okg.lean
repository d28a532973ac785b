/-! ===== the tables are checked ===== -/
set_option maxRecDepth 100000 in
theorem ct_X9_countPlain_0 : mc_X9_countPlain_0.all (ax_chkE mt_prog RX9 "countPlain" cX9_countPlain) = true := by decide +kernel
set_option maxRecDepth 100000 in
theorem ct_X9_countPlain_1 : mc_X9_countPlain_1.all (ax_chkE mt_prog RX9 "countPlain" cX9_countPlain) = true := by decide +kernel
set_option maxRecDepth 100000 in
theorem ct_X9_countPlain_2 : mc_X9_countPlain_2.all (ax_chkE mt_prog RX9 "countPlain" cX9_countPlain) = true := by decide +kernel
set_option maxRecDepth 100000 in
theorem ct_X9_countPlain_3 : mc_X9_countPlain_3.all (ax_chkE mt_prog RX9 "countPlain" cX9_countPlain) = true := by decide +kernel
set_option maxRecDepth 100000 in
theorem ch_X9_countPlain : ax_chkH (mt_X9_countPlain, 746, 118) = true := by decide +kernel
theorem pk_X9_countPlain : ax_MOk mt_prog mt_X9_countPlain := ax_MOk_of ch_X9_countPlain (List.forall_mem_cons.mpr ⟨ct_X9_countPlain_0, List.forall_mem_cons.mpr ⟨ct_X9_countPlain_1, List.forall_mem_cons.mpr ⟨ct_X9_countPlain_2, List.forall_mem_cons.mpr ⟨ct_X9_countPlain_3, fun _ h => absurd h List.not_mem_nil⟩⟩⟩⟩)
set_option maxRecDepth 100000 in
theorem ct_X9_inAll_0 : mc_X9_inAll_0.all (ax_chkE mt_prog RX9 "inAll" cX9_inAll) = true := by decide +kernel
set_option maxRecDepth 100000 in
theorem ch_X9_inAll : ax_chkH (mt_X9_inAll, 750, 118) = true := by decide +kernel
theorem pk_X9_inAll : ax_MOk mt_prog mt_X9_inAll := ax_MOk_of ch_X9_inAll (List.forall_mem_cons.mpr ⟨ct_X9_inAll_0, fun _ h => absurd h List.not_mem_nil⟩)
set_option maxRecDepth 100000 in
theorem ct_X9_findByOrder_0 : mc_X9_findByOrder_0.all (ax_chkE mt_prog RX9 "findByOrder" cX9_findByOrder) = true := by decide +kernel
set_option maxRecDepth 100000 in
theorem ch_X9_findByOrder : ax_chkH (mt_X9_findByOrder, 787, 118) = true := by decide +kernel
theorem pk_X9_findByOrder : ax_MOk mt_prog mt_X9_findByOrder := ax_MOk_of ch_X9_findByOrder (List.forall_mem_cons.mpr ⟨ct_X9_findByOrder_0, fun _ h => absurd h List.not_mem_nil⟩)
set_option maxRecDepth 100000 in
theorem ct_X9_findShortest_0 : mc_X9_findShortest_0.all (ax_chkE mt_prog RX9 "findShortest" cX9_findShortest) = true := by decide +kernel
set_option maxRecDepth 100000 in
theorem ct_X9_findShortest_1 : mc_X9_findShortest_1.all (ax_chkE mt_prog RX9 "findShortest" cX9_findShortest) = true := by decide +kernel
set_option maxRecDepth 100000 in
theorem ch_X9_findShortest : ax_chkH (mt_X9_findShortest, 762, 118) = true := by decide +kernel
theorem pk_X9_findShortest : ax_MOk mt_prog mt_X9_findShortest := ax_MOk_of ch_X9_findShortest (List.forall_mem_cons.mpr ⟨ct_X9_findShortest_0, List.forall_mem_cons.mpr ⟨ct_X9_findShortest_1, fun _ h => absurd h List.not_mem_nil⟩⟩)
set_option maxRecDepth 100000 in
theorem ct_X9_walk_0 : mc_X9_walk_0.all (ax_chkE mt_prog RX9 "walk" cX9_walk) = true := by decide +kernel
set_option maxRecDepth 100000 in
theorem ct_X9_walk_1 : mc_X9_walk_1.all (ax_chkE mt_prog RX9 "walk" cX9_walk) = true := by decide +kernel
set_option maxRecDepth 100000 in
theorem ct_X9_walk_2 : mc_X9_walk_2.all (ax_chkE mt_prog RX9 "walk" cX9_walk) = true := by decide +kernel
set_option maxRecDepth 100000 in
theorem ch_X9_walk : ax_chkH (mt_X9_walk, 770, 118) = true := by decide +kernel
theorem pk_X9_walk : ax_MOk mt_prog mt_X9_walk := ax_MOk_of ch_X9_walk (List.forall_mem_cons.mpr ⟨ct_X9_walk_0, List.forall_mem_cons.mpr ⟨ct_X9_walk_1, List.forall_mem_cons.mpr ⟨ct_X9_walk_2, fun _ h => absurd h List.not_mem_nil⟩⟩⟩)
set_option maxRecDepth 100000 in
theorem ct_X9_choosePlain_0 : mc_X9_choosePlain_0.all (ax_chkE mt_prog RX9 "choosePlain" cX9_choosePlain) = true := by decide +kernel
set_option maxRecDepth 100000 in
theorem ct_X9_choosePlain_1 : mc_X9_choosePlain_1.all (ax_chkE mt_prog RX9 "choosePlain" cX9_choosePlain) = true := by decide +kernel
set_option maxRecDepth 100000 in
theorem ch_X9_choosePlain : ax_chkH (mt_X9_choosePlain, 774, 118) = true := by decide +kernel
theorem pk_X9_choosePlain : ax_MOk mt_prog mt_X9_choosePlain := ax_MOk_of ch_X9_choosePlain (List.forall_mem_cons.mpr ⟨ct_X9_choosePlain_0, List.forall_mem_cons.mpr ⟨ct_X9_choosePlain_1, fun _ h => absurd h List.not_mem_nil⟩⟩)
set_option maxRecDepth 100000 in
theorem ct_X9_chooseTaking_0 : mc_X9_chooseTaking_0.all (ax_chkE mt_prog RX9 "chooseTaking" cX9_chooseTaking) = true := by decide +kernel
set_option maxRecDepth 100000 in
theorem ct_X9_chooseTaking_1 : mc_X9_chooseTaking_1.all (ax_chkE mt_prog RX9 "chooseTaking" cX9_chooseTaking) = true := by decide +kernel
set_option maxRecDepth 100000 in
theorem ct_X9_chooseTaking_2 : mc_X9_chooseTaking_2.all (ax_chkE mt_prog RX9 "chooseTaking" cX9_chooseTaking) = true := by decide +kernel
set_option maxRecDepth 100000 in
theorem ct_X9_chooseTaking_3 : mc_X9_chooseTaking_3.all (ax_chkE mt_prog RX9 "chooseTaking" cX9_chooseTaking) = true := by decide +kernel
set_option maxRecDepth 100000 in
theorem ct_X9_chooseTaking_4 : mc_X9_chooseTaking_4.all (ax_chkE mt_prog RX9 "chooseTaking" cX9_chooseTaking) = true := by decide +kernel
set_option maxRecDepth 100000 in
theorem ch_X9_chooseTaking : ax_chkH (mt_X9_chooseTaking, 783, 118) = true := by decide +kernel
theorem pk_X9_chooseTaking : ax_MOk mt_prog mt_X9_chooseTaking := ax_MOk_of ch_X9_chooseTaking (List.forall_mem_cons.mpr ⟨ct_X9_chooseTaking_0, List.forall_mem_cons.mpr ⟨ct_X9_chooseTaking_1, List.forall_mem_cons.mpr ⟨ct_X9_chooseTaking_2, List.forall_mem_cons.mpr ⟨ct_X9_chooseTaking_3, List.forall_mem_cons.mpr ⟨ct_X9_chooseTaking_4, fun _ h => absurd h List.not_mem_nil⟩⟩⟩⟩⟩)
set_option maxRecDepth 100000 in
theorem ct_X9_goes_0 : mc_X9_goes_0.all (ax_chkE mt_prog RX9 "goes" cX9_goes) = true := by decide +kernel
set_option maxRecDepth 100000 in
theorem ct_X9_goes_1 : mc_X9_goes_1.all (ax_chkE mt_prog RX9 "goes" cX9_goes) = true := by decide +kernel
set_option maxRecDepth 100000 in
theorem ct_X9_goes_2 : mc_X9_goes_2.all (ax_chkE mt_prog RX9 "goes" cX9_goes) = true := by decide +kernel
set_option maxRecDepth 100000 in
theorem ct_X9_goes_3 : mc_X9_goes_3.all (ax_chkE mt_prog RX9 "goes" cX9_goes) = true := by decide +kernel
set_option maxRecDepth 100000 in
theorem ct_X9_goes_4 : mc_X9_goes_4.all (ax_chkE mt_prog RX9 "goes" cX9_goes) = true := by decide +kernel
set_option maxRecDepth 100000 in
theorem ch_X9_goes : ax_chkH (mt_X9_goes, 778, 118) = true := by decide +kernel
theorem pk_X9_goes : ax_MOk mt_prog mt_X9_goes := ax_MOk_of ch_X9_goes (List.forall_mem_cons.mpr ⟨ct_X9_goes_0, List.forall_mem_cons.mpr ⟨ct_X9_goes_1, List.forall_mem_cons.mpr ⟨ct_X9_goes_2, List.forall_mem_cons.mpr ⟨ct_X9_goes_3, List.forall_mem_cons.mpr ⟨ct_X9_goes_4, fun _ h => absurd h List.not_mem_nil⟩⟩⟩⟩⟩)
set_option maxRecDepth 100000 in
theorem ct_X10_init_0 : mc_X10_init_0.all (ax_chkE mt_prog RX10 "<init>" cX10_init) = true := by decide +kernel
set_option maxRecDepth 100000 in
theorem ct_X10_init_1 : mc_X10_init_1.all (ax_chkE mt_prog RX10 "<init>" cX10_init) = true := by decide +kernel
set_option maxRecDepth 100000 in
theorem ct_X10_init_2 : mc_X10_init_2.all (ax_chkE mt_prog RX10 "<init>" cX10_init) = true := by decide +kernel
set_option maxRecDepth 100000 in
theorem ct_X10_init_3 : mc_X10_init_3.all (ax_chkE mt_prog RX10 "<init>" cX10_init) = true := by decide +kernel
set_option maxRecDepth 100000 in
theorem ct_X10_init_4 : mc_X10_init_4.all (ax_chkE mt_prog RX10 "<init>" cX10_init) = true := by decide +kernel
set_option maxRecDepth 100000 in
theorem ct_X10_init_5 : mc_X10_init_5.all (ax_chkE mt_prog RX10 "<init>" cX10_init) = true := by decide +kernel
set_option maxRecDepth 100000 in
theorem ch_X10_init : ax_chkH (mt_X10_init, 138, 116) = true := by decide +kernel
theorem pk_X10_init : ax_MOk mt_prog mt_X10_init := ax_MOk_of ch_X10_init (List.forall_mem_cons.mpr ⟨ct_X10_init_0, List.forall_mem_cons.mpr ⟨ct_X10_init_1, List.forall_mem_cons.mpr ⟨ct_X10_init_2, List.forall_mem_cons.mpr ⟨ct_X10_init_3, List.forall_mem_cons.mpr ⟨ct_X10_init_4, List.forall_mem_cons.mpr ⟨ct_X10_init_5, fun _ h => absurd h List.not_mem_nil⟩⟩⟩⟩⟩⟩)
set_option maxRecDepth 100000 in
theorem ct_X10_letters_0 : mc_X10_letters_0.all (ax_chkE mt_prog RX10 "letters" cX10_letters) = true := by decide +kernel
set_option maxRecDepth 100000 in
theorem ct_X10_letters_1 : mc_X10_letters_1.all (ax_chkE mt_prog RX10 "letters" cX10_letters) = true := by decide +kernel
set_option maxRecDepth 100000 in
theorem ch_X10_letters : ax_chkH (mt_X10_letters, 458, 116) = true := by decide +kernel
theorem pk_X10_letters : ax_MOk mt_prog mt_X10_letters := ax_MOk_of ch_X10_letters (List.forall_mem_cons.mpr ⟨ct_X10_letters_0, List.forall_mem_cons.mpr ⟨ct_X10_letters_1, fun _ h => absurd h List.not_mem_nil⟩⟩)
