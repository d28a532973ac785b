/-! ===== the tables are checked ===== -/
set_option maxRecDepth 100000 in
theorem ct_X0_init_0 : mc_X0_init_0.all (ax_chkE mt_prog RX0 "<init>" cX0_init) = true := by decide +kernel
set_option maxRecDepth 100000 in
theorem ct_X0_init_1 : mc_X0_init_1.all (ax_chkE mt_prog RX0 "<init>" cX0_init) = true := by decide +kernel
set_option maxRecDepth 100000 in
theorem ch_X0_init : ax_chkH (mt_X0_init, 283, 123) = true := by decide +kernel
theorem pk_X0_init : ax_MOk mt_prog mt_X0_init := ax_MOk_of ch_X0_init (List.forall_mem_cons.mpr ⟨ct_X0_init_0, List.forall_mem_cons.mpr ⟨ct_X0_init_1, fun _ h => absurd h List.not_mem_nil⟩⟩)
set_option maxRecDepth 100000 in
theorem ct_X0_hasColumns_0 : mc_X0_hasColumns_0.all (ax_chkE mt_prog RX0 "hasColumns" cX0_hasColumns) = true := by decide +kernel
set_option maxRecDepth 100000 in
theorem ch_X0_hasColumns : ax_chkH (mt_X0_hasColumns, 803, 123) = true := by decide +kernel
theorem pk_X0_hasColumns : ax_MOk mt_prog mt_X0_hasColumns := ax_MOk_of ch_X0_hasColumns (List.forall_mem_cons.mpr ⟨ct_X0_hasColumns_0, fun _ h => absurd h List.not_mem_nil⟩)
set_option maxRecDepth 100000 in
theorem ct_X0_addRow_0 : mc_X0_addRow_0.all (ax_chkE mt_prog RX0 "addRow" cX0_addRow) = true := by decide +kernel
set_option maxRecDepth 100000 in
theorem ct_X0_addRow_1 : mc_X0_addRow_1.all (ax_chkE mt_prog RX0 "addRow" cX0_addRow) = true := by decide +kernel
set_option maxRecDepth 100000 in
theorem ct_X0_addRow_2 : mc_X0_addRow_2.all (ax_chkE mt_prog RX0 "addRow" cX0_addRow) = true := by decide +kernel
set_option maxRecDepth 100000 in
theorem ct_X0_addRow_3 : mc_X0_addRow_3.all (ax_chkE mt_prog RX0 "addRow" cX0_addRow) = true := by decide +kernel
set_option maxRecDepth 100000 in
theorem ch_X0_addRow : ax_chkH (mt_X0_addRow, 807, 123) = true := by decide +kernel
theorem pk_X0_addRow : ax_MOk mt_prog mt_X0_addRow := ax_MOk_of ch_X0_addRow (List.forall_mem_cons.mpr ⟨ct_X0_addRow_0, List.forall_mem_cons.mpr ⟨ct_X0_addRow_1, List.forall_mem_cons.mpr ⟨ct_X0_addRow_2, List.forall_mem_cons.mpr ⟨ct_X0_addRow_3, fun _ h => absurd h List.not_mem_nil⟩⟩⟩⟩)
set_option maxRecDepth 100000 in
theorem ct_X0_acceptMore_0 : mc_X0_acceptMore_0.all (ax_chkE mt_prog RX0 "acceptMore" cX0_acceptMore) = true := by decide +kernel
set_option maxRecDepth 100000 in
theorem ct_X0_acceptMore_1 : mc_X0_acceptMore_1.all (ax_chkE mt_prog RX0 "acceptMore" cX0_acceptMore) = true := by decide +kernel
set_option maxRecDepth 100000 in
theorem ct_X0_acceptMore_2 : mc_X0_acceptMore_2.all (ax_chkE mt_prog RX0 "acceptMore" cX0_acceptMore) = true := by decide +kernel
set_option maxRecDepth 100000 in
theorem ch_X0_acceptMore : ax_chkH (mt_X0_acceptMore, 812, 123) = true := by decide +kernel
theorem pk_X0_acceptMore : ax_MOk mt_prog mt_X0_acceptMore := ax_MOk_of ch_X0_acceptMore (List.forall_mem_cons.mpr ⟨ct_X0_acceptMore_0, List.forall_mem_cons.mpr ⟨ct_X0_acceptMore_1, List.forall_mem_cons.mpr ⟨ct_X0_acceptMore_2, fun _ h => absurd h List.not_mem_nil⟩⟩⟩)
set_option maxRecDepth 100000 in
theorem ct_X0_pebbles_0 : mc_X0_pebbles_0.all (ax_chkE mt_prog RX0 "pebbles" cX0_pebbles) = true := by decide +kernel
set_option maxRecDepth 100000 in
theorem ct_X0_pebbles_1 : mc_X0_pebbles_1.all (ax_chkE mt_prog RX0 "pebbles" cX0_pebbles) = true := by decide +kernel
set_option maxRecDepth 100000 in
theorem ch_X0_pebbles : ax_chkH (mt_X0_pebbles, 816, 123) = true := by decide +kernel
theorem pk_X0_pebbles : ax_MOk mt_prog mt_X0_pebbles := ax_MOk_of ch_X0_pebbles (List.forall_mem_cons.mpr ⟨ct_X0_pebbles_0, List.forall_mem_cons.mpr ⟨ct_X0_pebbles_1, fun _ h => absurd h List.not_mem_nil⟩⟩)
set_option maxRecDepth 100000 in
theorem ct_X0_total_0 : mc_X0_total_0.all (ax_chkE mt_prog RX0 "total" cX0_total) = true := by decide +kernel
set_option maxRecDepth 100000 in
theorem ct_X0_total_1 : mc_X0_total_1.all (ax_chkE mt_prog RX0 "total" cX0_total) = true := by decide +kernel
set_option maxRecDepth 100000 in
theorem ch_X0_total : ax_chkH (mt_X0_total, 873, 123) = true := by decide +kernel
theorem pk_X0_total : ax_MOk mt_prog mt_X0_total := ax_MOk_of ch_X0_total (List.forall_mem_cons.mpr ⟨ct_X0_total_0, List.forall_mem_cons.mpr ⟨ct_X0_total_1, fun _ h => absurd h List.not_mem_nil⟩⟩)
set_option maxRecDepth 100000 in
theorem ct_X0_clear_0 : mc_X0_clear_0.all (ax_chkE mt_prog RX0 "clear" cX0_clear) = true := by decide +kernel
set_option maxRecDepth 100000 in
theorem ch_X0_clear : ax_chkH (mt_X0_clear, 896, 123) = true := by decide +kernel
theorem pk_X0_clear : ax_MOk mt_prog mt_X0_clear := ax_MOk_of ch_X0_clear (List.forall_mem_cons.mpr ⟨ct_X0_clear_0, fun _ h => absurd h List.not_mem_nil⟩)
set_option maxRecDepth 100000 in
theorem ct_X0_hasBundle_0 : mc_X0_hasBundle_0.all (ax_chkE mt_prog RX0 "hasBundle" cX0_hasBundle) = true := by decide +kernel
set_option maxRecDepth 100000 in
theorem ch_X0_hasBundle : ax_chkH (mt_X0_hasBundle, 824, 123) = true := by decide +kernel
theorem pk_X0_hasBundle : ax_MOk mt_prog mt_X0_hasBundle := ax_MOk_of ch_X0_hasBundle (List.forall_mem_cons.mpr ⟨ct_X0_hasBundle_0, fun _ h => absurd h List.not_mem_nil⟩)
set_option maxRecDepth 100000 in
theorem ct_X0_tieUp_0 : mc_X0_tieUp_0.all (ax_chkE mt_prog RX0 "tieUp" cX0_tieUp) = true := by decide +kernel
set_option maxRecDepth 100000 in
theorem ct_X0_tieUp_1 : mc_X0_tieUp_1.all (ax_chkE mt_prog RX0 "tieUp" cX0_tieUp) = true := by decide +kernel
set_option maxRecDepth 100000 in
theorem ch_X0_tieUp : ax_chkH (mt_X0_tieUp, 830, 123) = true := by decide +kernel
theorem pk_X0_tieUp : ax_MOk mt_prog mt_X0_tieUp := ax_MOk_of ch_X0_tieUp (List.forall_mem_cons.mpr ⟨ct_X0_tieUp_0, List.forall_mem_cons.mpr ⟨ct_X0_tieUp_1, fun _ h => absurd h List.not_mem_nil⟩⟩)
set_option maxRecDepth 100000 in
theorem ct_X0_untie_0 : mc_X0_untie_0.all (ax_chkE mt_prog RX0 "untie" cX0_untie) = true := by decide +kernel
set_option maxRecDepth 100000 in
theorem ct_X0_untie_1 : mc_X0_untie_1.all (ax_chkE mt_prog RX0 "untie" cX0_untie) = true := by decide +kernel
set_option maxRecDepth 100000 in
theorem ch_X0_untie : ax_chkH (mt_X0_untie, 838, 123) = true := by decide +kernel
theorem pk_X0_untie : ax_MOk mt_prog mt_X0_untie := ax_MOk_of ch_X0_untie (List.forall_mem_cons.mpr ⟨ct_X0_untie_0, List.forall_mem_cons.mpr ⟨ct_X0_untie_1, fun _ h => absurd h List.not_mem_nil⟩⟩)
set_option maxRecDepth 100000 in
theorem ct_X0_settleAll_0 : mc_X0_settleAll_0.all (ax_chkE mt_prog RX0 "settleAll" cX0_settleAll) = true := by decide +kernel
set_option maxRecDepth 100000 in
theorem ct_X0_settleAll_1 : mc_X0_settleAll_1.all (ax_chkE mt_prog RX0 "settleAll" cX0_settleAll) = true := by decide +kernel
set_option maxRecDepth 100000 in
theorem ch_X0_settleAll : ax_chkH (mt_X0_settleAll, 846, 123) = true := by decide +kernel
theorem pk_X0_settleAll : ax_MOk mt_prog mt_X0_settleAll := ax_MOk_of ch_X0_settleAll (List.forall_mem_cons.mpr ⟨ct_X0_settleAll_0, List.forall_mem_cons.mpr ⟨ct_X0_settleAll_1, fun _ h => absurd h List.not_mem_nil⟩⟩)
set_option maxRecDepth 100000 in
theorem ct_X0_nextStep_0 : mc_X0_nextStep_0.all (ax_chkE mt_prog RX0 "nextStep" cX0_nextStep) = true := by decide +kernel
set_option maxRecDepth 100000 in
theorem ct_X0_nextStep_1 : mc_X0_nextStep_1.all (ax_chkE mt_prog RX0 "nextStep" cX0_nextStep) = true := by decide +kernel
set_option maxRecDepth 100000 in
theorem ct_X0_nextStep_2 : mc_X0_nextStep_2.all (ax_chkE mt_prog RX0 "nextStep" cX0_nextStep) = true := by decide +kernel
set_option maxRecDepth 100000 in
theorem ct_X0_nextStep_3 : mc_X0_nextStep_3.all (ax_chkE mt_prog RX0 "nextStep" cX0_nextStep) = true := by decide +kernel
set_option maxRecDepth 100000 in
theorem ch_X0_nextStep : ax_chkH (mt_X0_nextStep, 850, 123) = true := by decide +kernel
theorem pk_X0_nextStep : ax_MOk mt_prog mt_X0_nextStep := ax_MOk_of ch_X0_nextStep (List.forall_mem_cons.mpr ⟨ct_X0_nextStep_0, List.forall_mem_cons.mpr ⟨ct_X0_nextStep_1, List.forall_mem_cons.mpr ⟨ct_X0_nextStep_2, List.forall_mem_cons.mpr ⟨ct_X0_nextStep_3, fun _ h => absurd h List.not_mem_nil⟩⟩⟩⟩)
set_option maxRecDepth 100000 in
theorem ct_X0_leastOwed_0 : mc_X0_leastOwed_0.all (ax_chkE mt_prog RX0 "leastOwed" cX0_leastOwed) = true := by decide +kernel
set_option maxRecDepth 100000 in
theorem ch_X0_leastOwed : ax_chkH (mt_X0_leastOwed, 854, 123) = true := by decide +kernel
theorem pk_X0_leastOwed : ax_MOk mt_prog mt_X0_leastOwed := ax_MOk_of ch_X0_leastOwed (List.forall_mem_cons.mpr ⟨ct_X0_leastOwed_0, fun _ h => absurd h List.not_mem_nil⟩)
set_option maxRecDepth 100000 in
theorem ct_X0_carryOut_0 : mc_X0_carryOut_0.all (ax_chkE mt_prog RX0 "carryOut" cX0_carryOut) = true := by decide +kernel
set_option maxRecDepth 100000 in
theorem ct_X0_carryOut_1 : mc_X0_carryOut_1.all (ax_chkE mt_prog RX0 "carryOut" cX0_carryOut) = true := by decide +kernel
set_option maxRecDepth 100000 in
theorem ch_X0_carryOut : ax_chkH (mt_X0_carryOut, 859, 123) = true := by decide +kernel
theorem pk_X0_carryOut : ax_MOk mt_prog mt_X0_carryOut := ax_MOk_of ch_X0_carryOut (List.forall_mem_cons.mpr ⟨ct_X0_carryOut_0, List.forall_mem_cons.mpr ⟨ct_X0_carryOut_1, fun _ h => absurd h List.not_mem_nil⟩⟩)
