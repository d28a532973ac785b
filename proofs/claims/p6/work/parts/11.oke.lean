/-! ===== the tables are checked ===== -/
set_option maxRecDepth 100000 in
theorem ct_X6_endsRule_0 : mc_X6_endsRule_0.all (ax_chkE mt_prog RX6 "endsRule" cX6_endsRule) = true := by decide +kernel
set_option maxRecDepth 100000 in
theorem ch_X6_endsRule : ax_chkH (mt_X6_endsRule, 485, 128) = true := by decide +kernel
theorem pk_X6_endsRule : ax_MOk mt_prog mt_X6_endsRule := ax_MOk_of ch_X6_endsRule (List.forall_mem_cons.mpr ⟨ct_X6_endsRule_0, fun _ h => absurd h List.not_mem_nil⟩)
set_option maxRecDepth 100000 in
theorem ct_X6_after_0 : mc_X6_after_0.all (ax_chkE mt_prog RX6 "after" cX6_after) = true := by decide +kernel
set_option maxRecDepth 100000 in
theorem ct_X6_after_1 : mc_X6_after_1.all (ax_chkE mt_prog RX6 "after" cX6_after) = true := by decide +kernel
set_option maxRecDepth 100000 in
theorem ct_X6_after_2 : mc_X6_after_2.all (ax_chkE mt_prog RX6 "after" cX6_after) = true := by decide +kernel
set_option maxRecDepth 100000 in
theorem ch_X6_after : ax_chkH (mt_X6_after, 482, 128) = true := by decide +kernel
theorem pk_X6_after : ax_MOk mt_prog mt_X6_after := ax_MOk_of ch_X6_after (List.forall_mem_cons.mpr ⟨ct_X6_after_0, List.forall_mem_cons.mpr ⟨ct_X6_after_1, List.forall_mem_cons.mpr ⟨ct_X6_after_2, fun _ h => absurd h List.not_mem_nil⟩⟩⟩)
set_option maxRecDepth 100000 in
theorem ct_X6_behindMark_0 : mc_X6_behindMark_0.all (ax_chkE mt_prog RX6 "behindMark" cX6_behindMark) = true := by decide +kernel
set_option maxRecDepth 100000 in
theorem ct_X6_behindMark_1 : mc_X6_behindMark_1.all (ax_chkE mt_prog RX6 "behindMark" cX6_behindMark) = true := by decide +kernel
set_option maxRecDepth 100000 in
theorem ch_X6_behindMark : ax_chkH (mt_X6_behindMark, 488, 128) = true := by decide +kernel
theorem pk_X6_behindMark : ax_MOk mt_prog mt_X6_behindMark := ax_MOk_of ch_X6_behindMark (List.forall_mem_cons.mpr ⟨ct_X6_behindMark_0, List.forall_mem_cons.mpr ⟨ct_X6_behindMark_1, fun _ h => absurd h List.not_mem_nil⟩⟩)
set_option maxRecDepth 100000 in
theorem ct_X6_behindSign_0 : mc_X6_behindSign_0.all (ax_chkE mt_prog RX6 "behindSign" cX6_behindSign) = true := by decide +kernel
set_option maxRecDepth 100000 in
theorem ct_X6_behindSign_1 : mc_X6_behindSign_1.all (ax_chkE mt_prog RX6 "behindSign" cX6_behindSign) = true := by decide +kernel
set_option maxRecDepth 100000 in
theorem ct_X6_behindSign_2 : mc_X6_behindSign_2.all (ax_chkE mt_prog RX6 "behindSign" cX6_behindSign) = true := by decide +kernel
set_option maxRecDepth 100000 in
theorem ch_X6_behindSign : ax_chkH (mt_X6_behindSign, 586, 128) = true := by decide +kernel
theorem pk_X6_behindSign : ax_MOk mt_prog mt_X6_behindSign := ax_MOk_of ch_X6_behindSign (List.forall_mem_cons.mpr ⟨ct_X6_behindSign_0, List.forall_mem_cons.mpr ⟨ct_X6_behindSign_1, List.forall_mem_cons.mpr ⟨ct_X6_behindSign_2, fun _ h => absurd h List.not_mem_nil⟩⟩⟩)
set_option maxRecDepth 100000 in
theorem ct_X6_outweighs_0 : mc_X6_outweighs_0.all (ax_chkE mt_prog RX6 "outweighs" cX6_outweighs) = true := by decide +kernel
set_option maxRecDepth 100000 in
theorem ch_X6_outweighs : ax_chkH (mt_X6_outweighs, 491, 128) = true := by decide +kernel
theorem pk_X6_outweighs : ax_MOk mt_prog mt_X6_outweighs := ax_MOk_of ch_X6_outweighs (List.forall_mem_cons.mpr ⟨ct_X6_outweighs_0, fun _ h => absurd h List.not_mem_nil⟩)
set_option maxRecDepth 100000 in
theorem ct_X6_at_0 : mc_X6_at_0.all (ax_chkE mt_prog RX6 "at" cX6_at) = true := by decide +kernel
set_option maxRecDepth 100000 in
theorem ch_X6_at : ax_chkH (mt_X6_at, 495, 128) = true := by decide +kernel
theorem pk_X6_at : ax_MOk mt_prog mt_X6_at := ax_MOk_of ch_X6_at (List.forall_mem_cons.mpr ⟨ct_X6_at_0, fun _ h => absurd h List.not_mem_nil⟩)
set_option maxRecDepth 100000 in
theorem ct_X7_init_0 : mc_X7_init_0.all (ax_chkE mt_prog RX7 "<init>" cX7_init) = true := by decide +kernel
set_option maxRecDepth 100000 in
theorem ct_X7_init_1 : mc_X7_init_1.all (ax_chkE mt_prog RX7 "<init>" cX7_init) = true := by decide +kernel
set_option maxRecDepth 100000 in
theorem ch_X7_init : ax_chkH (mt_X7_init, 312, 124) = true := by decide +kernel
theorem pk_X7_init : ax_MOk mt_prog mt_X7_init := ax_MOk_of ch_X7_init (List.forall_mem_cons.mpr ⟨ct_X7_init_0, List.forall_mem_cons.mpr ⟨ct_X7_init_1, fun _ h => absurd h List.not_mem_nil⟩⟩)
set_option maxRecDepth 100000 in
theorem ct_X7_placesOn_0 : mc_X7_placesOn_0.all (ax_chkE mt_prog RX7 "placesOn" cX7_placesOn) = true := by decide +kernel
set_option maxRecDepth 100000 in
theorem ct_X7_placesOn_1 : mc_X7_placesOn_1.all (ax_chkE mt_prog RX7 "placesOn" cX7_placesOn) = true := by decide +kernel
set_option maxRecDepth 100000 in
theorem ch_X7_placesOn : ax_chkH (mt_X7_placesOn, 926, 124) = true := by decide +kernel
theorem pk_X7_placesOn : ax_MOk mt_prog mt_X7_placesOn := ax_MOk_of ch_X7_placesOn (List.forall_mem_cons.mpr ⟨ct_X7_placesOn_0, List.forall_mem_cons.mpr ⟨ct_X7_placesOn_1, fun _ h => absurd h List.not_mem_nil⟩⟩)
set_option maxRecDepth 100000 in
theorem ct_X7_isStone_0 : mc_X7_isStone_0.all (ax_chkE mt_prog RX7 "isStone" cX7_isStone) = true := by decide +kernel
set_option maxRecDepth 100000 in
theorem ct_X7_isStone_1 : mc_X7_isStone_1.all (ax_chkE mt_prog RX7 "isStone" cX7_isStone) = true := by decide +kernel
set_option maxRecDepth 100000 in
theorem ct_X7_isStone_2 : mc_X7_isStone_2.all (ax_chkE mt_prog RX7 "isStone" cX7_isStone) = true := by decide +kernel
set_option maxRecDepth 100000 in
theorem ch_X7_isStone : ax_chkH (mt_X7_isStone, 923, 124) = true := by decide +kernel
theorem pk_X7_isStone : ax_MOk mt_prog mt_X7_isStone := ax_MOk_of ch_X7_isStone (List.forall_mem_cons.mpr ⟨ct_X7_isStone_0, List.forall_mem_cons.mpr ⟨ct_X7_isStone_1, List.forall_mem_cons.mpr ⟨ct_X7_isStone_2, fun _ h => absurd h List.not_mem_nil⟩⟩⟩)
set_option maxRecDepth 100000 in
theorem ct_X7_carve_0 : mc_X7_carve_0.all (ax_chkE mt_prog RX7 "carve" cX7_carve) = true := by decide +kernel
set_option maxRecDepth 100000 in
theorem ct_X7_carve_1 : mc_X7_carve_1.all (ax_chkE mt_prog RX7 "carve" cX7_carve) = true := by decide +kernel
set_option maxRecDepth 100000 in
theorem ct_X7_carve_2 : mc_X7_carve_2.all (ax_chkE mt_prog RX7 "carve" cX7_carve) = true := by decide +kernel
set_option maxRecDepth 100000 in
theorem ch_X7_carve : ax_chkH (mt_X7_carve, 931, 124) = true := by decide +kernel
theorem pk_X7_carve : ax_MOk mt_prog mt_X7_carve := ax_MOk_of ch_X7_carve (List.forall_mem_cons.mpr ⟨ct_X7_carve_0, List.forall_mem_cons.mpr ⟨ct_X7_carve_1, List.forall_mem_cons.mpr ⟨ct_X7_carve_2, fun _ h => absurd h List.not_mem_nil⟩⟩⟩)
set_option maxRecDepth 100000 in
theorem ct_X7_fillBy_0 : mc_X7_fillBy_0.all (ax_chkE mt_prog RX7 "fillBy" cX7_fillBy) = true := by decide +kernel
set_option maxRecDepth 100000 in
theorem ct_X7_fillBy_1 : mc_X7_fillBy_1.all (ax_chkE mt_prog RX7 "fillBy" cX7_fillBy) = true := by decide +kernel
set_option maxRecDepth 100000 in
theorem ch_X7_fillBy : ax_chkH (mt_X7_fillBy, 943, 124) = true := by decide +kernel
theorem pk_X7_fillBy : ax_MOk mt_prog mt_X7_fillBy := ax_MOk_of ch_X7_fillBy (List.forall_mem_cons.mpr ⟨ct_X7_fillBy_0, List.forall_mem_cons.mpr ⟨ct_X7_fillBy_1, fun _ h => absurd h List.not_mem_nil⟩⟩)
set_option maxRecDepth 100000 in
theorem ct_X7_makeRoom_0 : mc_X7_makeRoom_0.all (ax_chkE mt_prog RX7 "makeRoom" cX7_makeRoom) = true := by decide +kernel
set_option maxRecDepth 100000 in
theorem ct_X7_makeRoom_1 : mc_X7_makeRoom_1.all (ax_chkE mt_prog RX7 "makeRoom" cX7_makeRoom) = true := by decide +kernel
set_option maxRecDepth 100000 in
theorem ct_X7_makeRoom_2 : mc_X7_makeRoom_2.all (ax_chkE mt_prog RX7 "makeRoom" cX7_makeRoom) = true := by decide +kernel
set_option maxRecDepth 100000 in
theorem ch_X7_makeRoom : ax_chkH (mt_X7_makeRoom, 947, 124) = true := by decide +kernel
theorem pk_X7_makeRoom : ax_MOk mt_prog mt_X7_makeRoom := ax_MOk_of ch_X7_makeRoom (List.forall_mem_cons.mpr ⟨ct_X7_makeRoom_0, List.forall_mem_cons.mpr ⟨ct_X7_makeRoom_1, List.forall_mem_cons.mpr ⟨ct_X7_makeRoom_2, fun _ h => absurd h List.not_mem_nil⟩⟩⟩)
set_option maxRecDepth 100000 in
theorem ct_X7_fillFrom_0 : mc_X7_fillFrom_0.all (ax_chkE mt_prog RX7 "fillFrom" cX7_fillFrom) = true := by decide +kernel
set_option maxRecDepth 100000 in
theorem ct_X7_fillFrom_1 : mc_X7_fillFrom_1.all (ax_chkE mt_prog RX7 "fillFrom" cX7_fillFrom) = true := by decide +kernel
set_option maxRecDepth 100000 in
theorem ct_X7_fillFrom_2 : mc_X7_fillFrom_2.all (ax_chkE mt_prog RX7 "fillFrom" cX7_fillFrom) = true := by decide +kernel
set_option maxRecDepth 100000 in
theorem ct_X7_fillFrom_3 : mc_X7_fillFrom_3.all (ax_chkE mt_prog RX7 "fillFrom" cX7_fillFrom) = true := by decide +kernel
set_option maxRecDepth 100000 in
theorem ct_X7_fillFrom_4 : mc_X7_fillFrom_4.all (ax_chkE mt_prog RX7 "fillFrom" cX7_fillFrom) = true := by decide +kernel
set_option maxRecDepth 100000 in
theorem ch_X7_fillFrom : ax_chkH (mt_X7_fillFrom, 950, 124) = true := by decide +kernel
theorem pk_X7_fillFrom : ax_MOk mt_prog mt_X7_fillFrom := ax_MOk_of ch_X7_fillFrom (List.forall_mem_cons.mpr ⟨ct_X7_fillFrom_0, List.forall_mem_cons.mpr ⟨ct_X7_fillFrom_1, List.forall_mem_cons.mpr ⟨ct_X7_fillFrom_2, List.forall_mem_cons.mpr ⟨ct_X7_fillFrom_3, List.forall_mem_cons.mpr ⟨ct_X7_fillFrom_4, fun _ h => absurd h List.not_mem_nil⟩⟩⟩⟩⟩)
set_option maxRecDepth 100000 in
theorem ct_X7_keepFilling_0 : mc_X7_keepFilling_0.all (ax_chkE mt_prog RX7 "keepFilling" cX7_keepFilling) = true := by decide +kernel
set_option maxRecDepth 100000 in
theorem ct_X7_keepFilling_1 : mc_X7_keepFilling_1.all (ax_chkE mt_prog RX7 "keepFilling" cX7_keepFilling) = true := by decide +kernel
set_option maxRecDepth 100000 in
theorem ct_X7_keepFilling_2 : mc_X7_keepFilling_2.all (ax_chkE mt_prog RX7 "keepFilling" cX7_keepFilling) = true := by decide +kernel
set_option maxRecDepth 100000 in
theorem ct_X7_keepFilling_3 : mc_X7_keepFilling_3.all (ax_chkE mt_prog RX7 "keepFilling" cX7_keepFilling) = true := by decide +kernel
set_option maxRecDepth 100000 in
theorem ch_X7_keepFilling : ax_chkH (mt_X7_keepFilling, 955, 124) = true := by decide +kernel
theorem pk_X7_keepFilling : ax_MOk mt_prog mt_X7_keepFilling := ax_MOk_of ch_X7_keepFilling (List.forall_mem_cons.mpr ⟨ct_X7_keepFilling_0, List.forall_mem_cons.mpr ⟨ct_X7_keepFilling_1, List.forall_mem_cons.mpr ⟨ct_X7_keepFilling_2, List.forall_mem_cons.mpr ⟨ct_X7_keepFilling_3, fun _ h => absurd h List.not_mem_nil⟩⟩⟩⟩)
