/-! ===== the tables are checked ===== -/
set_option maxRecDepth 100000 in
theorem ct_X7_sortWorths_0 : mc_X7_sortWorths_0.all (ax_chkE mt_prog RX7 "sortWorths" cX7_sortWorths) = true := by decide +kernel
set_option maxRecDepth 100000 in
theorem ct_X7_sortWorths_1 : mc_X7_sortWorths_1.all (ax_chkE mt_prog RX7 "sortWorths" cX7_sortWorths) = true := by decide +kernel
set_option maxRecDepth 100000 in
theorem ct_X7_sortWorths_2 : mc_X7_sortWorths_2.all (ax_chkE mt_prog RX7 "sortWorths" cX7_sortWorths) = true := by decide +kernel
set_option maxRecDepth 100000 in
theorem ct_X7_sortWorths_3 : mc_X7_sortWorths_3.all (ax_chkE mt_prog RX7 "sortWorths" cX7_sortWorths) = true := by decide +kernel
set_option maxRecDepth 100000 in
theorem ch_X7_sortWorths : ax_chkH (mt_X7_sortWorths, 961, 124) = true := by decide +kernel
theorem pk_X7_sortWorths : ax_MOk mt_prog mt_X7_sortWorths := ax_MOk_of ch_X7_sortWorths (List.forall_mem_cons.mpr ⟨ct_X7_sortWorths_0, List.forall_mem_cons.mpr ⟨ct_X7_sortWorths_1, List.forall_mem_cons.mpr ⟨ct_X7_sortWorths_2, List.forall_mem_cons.mpr ⟨ct_X7_sortWorths_3, fun _ h => absurd h List.not_mem_nil⟩⟩⟩⟩)
set_option maxRecDepth 100000 in
theorem ct_X7_dropLikeWorths_0 : mc_X7_dropLikeWorths_0.all (ax_chkE mt_prog RX7 "dropLikeWorths" cX7_dropLikeWorths) = true := by decide +kernel
set_option maxRecDepth 100000 in
theorem ct_X7_dropLikeWorths_1 : mc_X7_dropLikeWorths_1.all (ax_chkE mt_prog RX7 "dropLikeWorths" cX7_dropLikeWorths) = true := by decide +kernel
set_option maxRecDepth 100000 in
theorem ct_X7_dropLikeWorths_2 : mc_X7_dropLikeWorths_2.all (ax_chkE mt_prog RX7 "dropLikeWorths" cX7_dropLikeWorths) = true := by decide +kernel
set_option maxRecDepth 100000 in
theorem ch_X7_dropLikeWorths : ax_chkH (mt_X7_dropLikeWorths, 965, 124) = true := by decide +kernel
theorem pk_X7_dropLikeWorths : ax_MOk mt_prog mt_X7_dropLikeWorths := ax_MOk_of ch_X7_dropLikeWorths (List.forall_mem_cons.mpr ⟨ct_X7_dropLikeWorths_0, List.forall_mem_cons.mpr ⟨ct_X7_dropLikeWorths_1, List.forall_mem_cons.mpr ⟨ct_X7_dropLikeWorths_2, fun _ h => absurd h List.not_mem_nil⟩⟩⟩)
set_option maxRecDepth 100000 in
theorem ct_X7_digestOn_0 : mc_X7_digestOn_0.all (ax_chkE mt_prog RX7 "digestOn" cX7_digestOn) = true := by decide +kernel
set_option maxRecDepth 100000 in
theorem ct_X7_digestOn_1 : mc_X7_digestOn_1.all (ax_chkE mt_prog RX7 "digestOn" cX7_digestOn) = true := by decide +kernel
set_option maxRecDepth 100000 in
theorem ch_X7_digestOn : ax_chkH (mt_X7_digestOn, 1104, 124) = true := by decide +kernel
theorem pk_X7_digestOn : ax_MOk mt_prog mt_X7_digestOn := ax_MOk_of ch_X7_digestOn (List.forall_mem_cons.mpr ⟨ct_X7_digestOn_0, List.forall_mem_cons.mpr ⟨ct_X7_digestOn_1, fun _ h => absurd h List.not_mem_nil⟩⟩)
set_option maxRecDepth 100000 in
theorem ct_X8_init_0 : mc_X8_init_0.all (ax_chkE mt_prog RX8 "<init>" cX8_init) = true := by decide +kernel
set_option maxRecDepth 100000 in
theorem ct_X8_init_1 : mc_X8_init_1.all (ax_chkE mt_prog RX8 "<init>" cX8_init) = true := by decide +kernel
set_option maxRecDepth 100000 in
theorem ct_X8_init_2 : mc_X8_init_2.all (ax_chkE mt_prog RX8 "<init>" cX8_init) = true := by decide +kernel
set_option maxRecDepth 100000 in
theorem ct_X8_init_3 : mc_X8_init_3.all (ax_chkE mt_prog RX8 "<init>" cX8_init) = true := by decide +kernel
set_option maxRecDepth 100000 in
theorem ct_X8_init_4 : mc_X8_init_4.all (ax_chkE mt_prog RX8 "<init>" cX8_init) = true := by decide +kernel
set_option maxRecDepth 100000 in
theorem ch_X8_init : ax_chkH (mt_X8_init, 175, 119) = true := by decide +kernel
theorem pk_X8_init : ax_MOk mt_prog mt_X8_init := ax_MOk_of ch_X8_init (List.forall_mem_cons.mpr ⟨ct_X8_init_0, List.forall_mem_cons.mpr ⟨ct_X8_init_1, List.forall_mem_cons.mpr ⟨ct_X8_init_2, List.forall_mem_cons.mpr ⟨ct_X8_init_3, List.forall_mem_cons.mpr ⟨ct_X8_init_4, fun _ h => absurd h List.not_mem_nil⟩⟩⟩⟩⟩)
set_option maxRecDepth 100000 in
theorem ct_X8_startOf_0 : mc_X8_startOf_0.all (ax_chkE mt_prog RX8 "startOf" cX8_startOf) = true := by decide +kernel
set_option maxRecDepth 100000 in
theorem ch_X8_startOf : ax_chkH (mt_X8_startOf, 728, 119) = true := by decide +kernel
theorem pk_X8_startOf : ax_MOk mt_prog mt_X8_startOf := ax_MOk_of ch_X8_startOf (List.forall_mem_cons.mpr ⟨ct_X8_startOf_0, fun _ h => absurd h List.not_mem_nil⟩)
set_option maxRecDepth 100000 in
theorem ct_X8_startFor_0 : mc_X8_startFor_0.all (ax_chkE mt_prog RX8 "startFor" cX8_startFor) = true := by decide +kernel
set_option maxRecDepth 100000 in
theorem ct_X8_startFor_1 : mc_X8_startFor_1.all (ax_chkE mt_prog RX8 "startFor" cX8_startFor) = true := by decide +kernel
set_option maxRecDepth 100000 in
theorem ch_X8_startFor : ax_chkH (mt_X8_startFor, 740, 119) = true := by decide +kernel
theorem pk_X8_startFor : ax_MOk mt_prog mt_X8_startFor := ax_MOk_of ch_X8_startFor (List.forall_mem_cons.mpr ⟨ct_X8_startFor_0, List.forall_mem_cons.mpr ⟨ct_X8_startFor_1, fun _ h => absurd h List.not_mem_nil⟩⟩)
set_option maxRecDepth 100000 in
theorem ct_X8_clearAt_0 : mc_X8_clearAt_0.all (ax_chkE mt_prog RX8 "clearAt" cX8_clearAt) = true := by decide +kernel
set_option maxRecDepth 100000 in
theorem ch_X8_clearAt : ax_chkH (mt_X8_clearAt, 732, 119) = true := by decide +kernel
theorem pk_X8_clearAt : ax_MOk mt_prog mt_X8_clearAt := ax_MOk_of ch_X8_clearAt (List.forall_mem_cons.mpr ⟨ct_X8_clearAt_0, fun _ h => absurd h List.not_mem_nil⟩)
set_option maxRecDepth 100000 in
theorem ct_X8_addAt_0 : mc_X8_addAt_0.all (ax_chkE mt_prog RX8 "addAt" cX8_addAt) = true := by decide +kernel
set_option maxRecDepth 100000 in
theorem ct_X8_addAt_1 : mc_X8_addAt_1.all (ax_chkE mt_prog RX8 "addAt" cX8_addAt) = true := by decide +kernel
set_option maxRecDepth 100000 in
theorem ct_X8_addAt_2 : mc_X8_addAt_2.all (ax_chkE mt_prog RX8 "addAt" cX8_addAt) = true := by decide +kernel
set_option maxRecDepth 100000 in
theorem ch_X8_addAt : ax_chkH (mt_X8_addAt, 736, 119) = true := by decide +kernel
theorem pk_X8_addAt : ax_MOk mt_prog mt_X8_addAt := ax_MOk_of ch_X8_addAt (List.forall_mem_cons.mpr ⟨ct_X8_addAt_0, List.forall_mem_cons.mpr ⟨ct_X8_addAt_1, List.forall_mem_cons.mpr ⟨ct_X8_addAt_2, fun _ h => absurd h List.not_mem_nil⟩⟩⟩)
set_option maxRecDepth 100000 in
theorem ct_X8_exactly_0 : mc_X8_exactly_0.all (ax_chkE mt_prog RX8 "exactly" cX8_exactly) = true := by decide +kernel
set_option maxRecDepth 100000 in
theorem ct_X8_exactly_1 : mc_X8_exactly_1.all (ax_chkE mt_prog RX8 "exactly" cX8_exactly) = true := by decide +kernel
set_option maxRecDepth 100000 in
theorem ch_X8_exactly : ax_chkH (mt_X8_exactly, 766, 119) = true := by decide +kernel
theorem pk_X8_exactly : ax_MOk mt_prog mt_X8_exactly := ax_MOk_of ch_X8_exactly (List.forall_mem_cons.mpr ⟨ct_X8_exactly_0, List.forall_mem_cons.mpr ⟨ct_X8_exactly_1, fun _ h => absurd h List.not_mem_nil⟩⟩)
set_option maxRecDepth 100000 in
theorem ct_X8_atMost_0 : mc_X8_atMost_0.all (ax_chkE mt_prog RX8 "atMost" cX8_atMost) = true := by decide +kernel
set_option maxRecDepth 100000 in
theorem ct_X8_atMost_1 : mc_X8_atMost_1.all (ax_chkE mt_prog RX8 "atMost" cX8_atMost) = true := by decide +kernel
set_option maxRecDepth 100000 in
theorem ct_X8_atMost_2 : mc_X8_atMost_2.all (ax_chkE mt_prog RX8 "atMost" cX8_atMost) = true := by decide +kernel
set_option maxRecDepth 100000 in
theorem ch_X8_atMost : ax_chkH (mt_X8_atMost, 754, 119) = true := by decide +kernel
theorem pk_X8_atMost : ax_MOk mt_prog mt_X8_atMost := ax_MOk_of ch_X8_atMost (List.forall_mem_cons.mpr ⟨ct_X8_atMost_0, List.forall_mem_cons.mpr ⟨ct_X8_atMost_1, List.forall_mem_cons.mpr ⟨ct_X8_atMost_2, fun _ h => absurd h List.not_mem_nil⟩⟩⟩)
set_option maxRecDepth 100000 in
theorem ct_X9_init_0 : mc_X9_init_0.all (ax_chkE mt_prog RX9 "<init>" cX9_init) = true := by decide +kernel
set_option maxRecDepth 100000 in
theorem ct_X9_init_1 : mc_X9_init_1.all (ax_chkE mt_prog RX9 "<init>" cX9_init) = true := by decide +kernel
set_option maxRecDepth 100000 in
theorem ct_X9_init_2 : mc_X9_init_2.all (ax_chkE mt_prog RX9 "<init>" cX9_init) = true := by decide +kernel
set_option maxRecDepth 100000 in
theorem ch_X9_init : ax_chkH (mt_X9_init, 169, 118) = true := by decide +kernel
theorem pk_X9_init : ax_MOk mt_prog mt_X9_init := ax_MOk_of ch_X9_init (List.forall_mem_cons.mpr ⟨ct_X9_init_0, List.forall_mem_cons.mpr ⟨ct_X9_init_1, List.forall_mem_cons.mpr ⟨ct_X9_init_2, fun _ h => absurd h List.not_mem_nil⟩⟩⟩)
set_option maxRecDepth 100000 in
theorem ct_X9_prepare_0 : mc_X9_prepare_0.all (ax_chkE mt_prog RX9 "prepare" cX9_prepare) = true := by decide +kernel
set_option maxRecDepth 100000 in
theorem ct_X9_prepare_1 : mc_X9_prepare_1.all (ax_chkE mt_prog RX9 "prepare" cX9_prepare) = true := by decide +kernel
set_option maxRecDepth 100000 in
theorem ct_X9_prepare_2 : mc_X9_prepare_2.all (ax_chkE mt_prog RX9 "prepare" cX9_prepare) = true := by decide +kernel
set_option maxRecDepth 100000 in
theorem ch_X9_prepare : ax_chkH (mt_X9_prepare, 719, 118) = true := by decide +kernel
theorem pk_X9_prepare : ax_MOk mt_prog mt_X9_prepare := ax_MOk_of ch_X9_prepare (List.forall_mem_cons.mpr ⟨ct_X9_prepare_0, List.forall_mem_cons.mpr ⟨ct_X9_prepare_1, List.forall_mem_cons.mpr ⟨ct_X9_prepare_2, fun _ h => absurd h List.not_mem_nil⟩⟩⟩)
set_option maxRecDepth 100000 in
theorem ct_X9_countTakings_0 : mc_X9_countTakings_0.all (ax_chkE mt_prog RX9 "countTakings" cX9_countTakings) = true := by decide +kernel
set_option maxRecDepth 100000 in
theorem ct_X9_countTakings_1 : mc_X9_countTakings_1.all (ax_chkE mt_prog RX9 "countTakings" cX9_countTakings) = true := by decide +kernel
set_option maxRecDepth 100000 in
theorem ct_X9_countTakings_2 : mc_X9_countTakings_2.all (ax_chkE mt_prog RX9 "countTakings" cX9_countTakings) = true := by decide +kernel
set_option maxRecDepth 100000 in
theorem ct_X9_countTakings_3 : mc_X9_countTakings_3.all (ax_chkE mt_prog RX9 "countTakings" cX9_countTakings) = true := by decide +kernel
set_option maxRecDepth 100000 in
theorem ct_X9_countTakings_4 : mc_X9_countTakings_4.all (ax_chkE mt_prog RX9 "countTakings" cX9_countTakings) = true := by decide +kernel
set_option maxRecDepth 100000 in
theorem ct_X9_countTakings_5 : mc_X9_countTakings_5.all (ax_chkE mt_prog RX9 "countTakings" cX9_countTakings) = true := by decide +kernel
set_option maxRecDepth 100000 in
theorem ch_X9_countTakings : ax_chkH (mt_X9_countTakings, 723, 118) = true := by decide +kernel
theorem pk_X9_countTakings : ax_MOk mt_prog mt_X9_countTakings := ax_MOk_of ch_X9_countTakings (List.forall_mem_cons.mpr ⟨ct_X9_countTakings_0, List.forall_mem_cons.mpr ⟨ct_X9_countTakings_1, List.forall_mem_cons.mpr ⟨ct_X9_countTakings_2, List.forall_mem_cons.mpr ⟨ct_X9_countTakings_3, List.forall_mem_cons.mpr ⟨ct_X9_countTakings_4, List.forall_mem_cons.mpr ⟨ct_X9_countTakings_5, fun _ h => absurd h List.not_mem_nil⟩⟩⟩⟩⟩⟩)
