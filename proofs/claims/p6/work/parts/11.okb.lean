/-! ===== the tables are checked ===== -/
set_option maxRecDepth 100000 in
theorem ct_X0_canBeLifted_0 : mc_X0_canBeLifted_0.all (ax_chkE mt_prog RX0 "canBeLifted" cX0_canBeLifted) = true := by decide +kernel
set_option maxRecDepth 100000 in
theorem ch_X0_canBeLifted : ax_chkH (mt_X0_canBeLifted, 882, 123) = true := by decide +kernel
theorem pk_X0_canBeLifted : ax_MOk mt_prog mt_X0_canBeLifted := ax_MOk_of ch_X0_canBeLifted (List.forall_mem_cons.mpr ⟨ct_X0_canBeLifted_0, fun _ h => absurd h List.not_mem_nil⟩)
set_option maxRecDepth 100000 in
theorem ct_X0_copyGiven_0 : mc_X0_copyGiven_0.all (ax_chkE mt_prog RX0 "copyGiven" cX0_copyGiven) = true := by decide +kernel
set_option maxRecDepth 100000 in
theorem ch_X0_copyGiven : ax_chkH (mt_X0_copyGiven, 887, 123) = true := by decide +kernel
theorem pk_X0_copyGiven : ax_MOk mt_prog mt_X0_copyGiven := ax_MOk_of ch_X0_copyGiven (List.forall_mem_cons.mpr ⟨ct_X0_copyGiven_0, fun _ h => absurd h List.not_mem_nil⟩)
set_option maxRecDepth 100000 in
theorem ct_X0_digestOn_0 : mc_X0_digestOn_0.all (ax_chkE mt_prog RX0 "digestOn" cX0_digestOn) = true := by decide +kernel
set_option maxRecDepth 100000 in
theorem ct_X0_digestOn_1 : mc_X0_digestOn_1.all (ax_chkE mt_prog RX0 "digestOn" cX0_digestOn) = true := by decide +kernel
set_option maxRecDepth 100000 in
theorem ch_X0_digestOn : ax_chkH (mt_X0_digestOn, 1099, 123) = true := by decide +kernel
theorem pk_X0_digestOn : ax_MOk mt_prog mt_X0_digestOn := ax_MOk_of ch_X0_digestOn (List.forall_mem_cons.mpr ⟨ct_X0_digestOn_0, List.forall_mem_cons.mpr ⟨ct_X0_digestOn_1, fun _ h => absurd h List.not_mem_nil⟩⟩)
set_option maxRecDepth 100000 in
theorem ct_X1_init_0 : mc_X1_init_0.all (ax_chkE mt_prog RX1 "<init>" cX1_init) = true := by decide +kernel
set_option maxRecDepth 100000 in
theorem ch_X1_init : ax_chkH (mt_X1_init, 228, 122) = true := by decide +kernel
theorem pk_X1_init : ax_MOk mt_prog mt_X1_init := ax_MOk_of ch_X1_init (List.forall_mem_cons.mpr ⟨ct_X1_init_0, fun _ h => absurd h List.not_mem_nil⟩)
set_option maxRecDepth 100000 in
theorem ct_X1_allows_0 : mc_X1_allows_0.all (ax_chkE mt_prog RX1 "allows" cX1_allows) = true := by decide +kernel
set_option maxRecDepth 100000 in
theorem ct_X1_allows_1 : mc_X1_allows_1.all (ax_chkE mt_prog RX1 "allows" cX1_allows) = true := by decide +kernel
set_option maxRecDepth 100000 in
theorem ch_X1_allows : ax_chkH (mt_X1_allows, 608, 122) = true := by decide +kernel
theorem pk_X1_allows : ax_MOk mt_prog mt_X1_allows := ax_MOk_of ch_X1_allows (List.forall_mem_cons.mpr ⟨ct_X1_allows_0, List.forall_mem_cons.mpr ⟨ct_X1_allows_1, fun _ h => absurd h List.not_mem_nil⟩⟩)
set_option maxRecDepth 100000 in
theorem ct_X1_goodSigns_0 : mc_X1_goodSigns_0.all (ax_chkE mt_prog RX1 "goodSigns" cX1_goodSigns) = true := by decide +kernel
set_option maxRecDepth 100000 in
theorem ct_X1_goodSigns_1 : mc_X1_goodSigns_1.all (ax_chkE mt_prog RX1 "goodSigns" cX1_goodSigns) = true := by decide +kernel
set_option maxRecDepth 100000 in
theorem ch_X1_goodSigns : ax_chkH (mt_X1_goodSigns, 707, 122) = true := by decide +kernel
theorem pk_X1_goodSigns : ax_MOk mt_prog mt_X1_goodSigns := ax_MOk_of ch_X1_goodSigns (List.forall_mem_cons.mpr ⟨ct_X1_goodSigns_0, List.forall_mem_cons.mpr ⟨ct_X1_goodSigns_1, fun _ h => absurd h List.not_mem_nil⟩⟩)
set_option maxRecDepth 100000 in
theorem ct_X1_after_0 : mc_X1_after_0.all (ax_chkE mt_prog RX1 "after" cX1_after) = true := by decide +kernel
set_option maxRecDepth 100000 in
theorem ct_X1_after_1 : mc_X1_after_1.all (ax_chkE mt_prog RX1 "after" cX1_after) = true := by decide +kernel
set_option maxRecDepth 100000 in
theorem ct_X1_after_2 : mc_X1_after_2.all (ax_chkE mt_prog RX1 "after" cX1_after) = true := by decide +kernel
set_option maxRecDepth 100000 in
theorem ch_X1_after : ax_chkH (mt_X1_after, 612, 122) = true := by decide +kernel
theorem pk_X1_after : ax_MOk mt_prog mt_X1_after := ax_MOk_of ch_X1_after (List.forall_mem_cons.mpr ⟨ct_X1_after_0, List.forall_mem_cons.mpr ⟨ct_X1_after_1, List.forall_mem_cons.mpr ⟨ct_X1_after_2, fun _ h => absurd h List.not_mem_nil⟩⟩⟩)
set_option maxRecDepth 100000 in
theorem ct_X1_isWhole_0 : mc_X1_isWhole_0.all (ax_chkE mt_prog RX1 "isWhole" cX1_isWhole) = true := by decide +kernel
set_option maxRecDepth 100000 in
theorem ct_X1_isWhole_1 : mc_X1_isWhole_1.all (ax_chkE mt_prog RX1 "isWhole" cX1_isWhole) = true := by decide +kernel
set_option maxRecDepth 100000 in
theorem ch_X1_isWhole : ax_chkH (mt_X1_isWhole, 648, 122) = true := by decide +kernel
theorem pk_X1_isWhole : ax_MOk mt_prog mt_X1_isWhole := ax_MOk_of ch_X1_isWhole (List.forall_mem_cons.mpr ⟨ct_X1_isWhole_0, List.forall_mem_cons.mpr ⟨ct_X1_isWhole_1, fun _ h => absurd h List.not_mem_nil⟩⟩)
set_option maxRecDepth 100000 in
theorem ct_X1_leaveOpen_0 : mc_X1_leaveOpen_0.all (ax_chkE mt_prog RX1 "leaveOpen" cX1_leaveOpen) = true := by decide +kernel
set_option maxRecDepth 100000 in
theorem ct_X1_leaveOpen_1 : mc_X1_leaveOpen_1.all (ax_chkE mt_prog RX1 "leaveOpen" cX1_leaveOpen) = true := by decide +kernel
set_option maxRecDepth 100000 in
theorem ct_X1_leaveOpen_2 : mc_X1_leaveOpen_2.all (ax_chkE mt_prog RX1 "leaveOpen" cX1_leaveOpen) = true := by decide +kernel
set_option maxRecDepth 100000 in
theorem ct_X1_leaveOpen_3 : mc_X1_leaveOpen_3.all (ax_chkE mt_prog RX1 "leaveOpen" cX1_leaveOpen) = true := by decide +kernel
set_option maxRecDepth 100000 in
theorem ch_X1_leaveOpen : ax_chkH (mt_X1_leaveOpen, 619, 122) = true := by decide +kernel
theorem pk_X1_leaveOpen : ax_MOk mt_prog mt_X1_leaveOpen := ax_MOk_of ch_X1_leaveOpen (List.forall_mem_cons.mpr ⟨ct_X1_leaveOpen_0, List.forall_mem_cons.mpr ⟨ct_X1_leaveOpen_1, List.forall_mem_cons.mpr ⟨ct_X1_leaveOpen_2, List.forall_mem_cons.mpr ⟨ct_X1_leaveOpen_3, fun _ h => absurd h List.not_mem_nil⟩⟩⟩⟩)
set_option maxRecDepth 100000 in
theorem ct_X1_closePlain_0 : mc_X1_closePlain_0.all (ax_chkE mt_prog RX1 "closePlain" cX1_closePlain) = true := by decide +kernel
set_option maxRecDepth 100000 in
theorem ct_X1_closePlain_1 : mc_X1_closePlain_1.all (ax_chkE mt_prog RX1 "closePlain" cX1_closePlain) = true := by decide +kernel
set_option maxRecDepth 100000 in
theorem ch_X1_closePlain : ax_chkH (mt_X1_closePlain, 644, 122) = true := by decide +kernel
theorem pk_X1_closePlain : ax_MOk mt_prog mt_X1_closePlain := ax_MOk_of ch_X1_closePlain (List.forall_mem_cons.mpr ⟨ct_X1_closePlain_0, List.forall_mem_cons.mpr ⟨ct_X1_closePlain_1, fun _ h => absurd h List.not_mem_nil⟩⟩)
set_option maxRecDepth 100000 in
theorem ct_X1_closeTaking_0 : mc_X1_closeTaking_0.all (ax_chkE mt_prog RX1 "closeTaking" cX1_closeTaking) = true := by decide +kernel
set_option maxRecDepth 100000 in
theorem ct_X1_closeTaking_1 : mc_X1_closeTaking_1.all (ax_chkE mt_prog RX1 "closeTaking" cX1_closeTaking) = true := by decide +kernel
set_option maxRecDepth 100000 in
theorem ch_X1_closeTaking : ax_chkH (mt_X1_closeTaking, 632, 122) = true := by decide +kernel
theorem pk_X1_closeTaking : ax_MOk mt_prog mt_X1_closeTaking := ax_MOk_of ch_X1_closeTaking (List.forall_mem_cons.mpr ⟨ct_X1_closeTaking_0, List.forall_mem_cons.mpr ⟨ct_X1_closeTaking_1, fun _ h => absurd h List.not_mem_nil⟩⟩)
set_option maxRecDepth 100000 in
theorem ct_X1_mayTakeOnce_0 : mc_X1_mayTakeOnce_0.all (ax_chkE mt_prog RX1 "mayTakeOnce" cX1_mayTakeOnce) = true := by decide +kernel
set_option maxRecDepth 100000 in
theorem ch_X1_mayTakeOnce : ax_chkH (mt_X1_mayTakeOnce, 636, 122) = true := by decide +kernel
theorem pk_X1_mayTakeOnce : ax_MOk mt_prog mt_X1_mayTakeOnce := ax_MOk_of ch_X1_mayTakeOnce (List.forall_mem_cons.mpr ⟨ct_X1_mayTakeOnce_0, fun _ h => absurd h List.not_mem_nil⟩)
set_option maxRecDepth 100000 in
theorem ct_X1_mayTakeTwice_0 : mc_X1_mayTakeTwice_0.all (ax_chkE mt_prog RX1 "mayTakeTwice" cX1_mayTakeTwice) = true := by decide +kernel
set_option maxRecDepth 100000 in
theorem ch_X1_mayTakeTwice : ax_chkH (mt_X1_mayTakeTwice, 640, 122) = true := by decide +kernel
theorem pk_X1_mayTakeTwice : ax_MOk mt_prog mt_X1_mayTakeTwice := ax_MOk_of ch_X1_mayTakeTwice (List.forall_mem_cons.mpr ⟨ct_X1_mayTakeTwice_0, fun _ h => absurd h List.not_mem_nil⟩)
set_option maxRecDepth 100000 in
theorem ct_X1_standingOf_0 : mc_X1_standingOf_0.all (ax_chkE mt_prog RX1 "standingOf" cX1_standingOf) = true := by decide +kernel
set_option maxRecDepth 100000 in
theorem ch_X1_standingOf : ax_chkH (mt_X1_standingOf, 625, 122) = true := by decide +kernel
theorem pk_X1_standingOf : ax_MOk mt_prog mt_X1_standingOf := ax_MOk_of ch_X1_standingOf (List.forall_mem_cons.mpr ⟨ct_X1_standingOf_0, fun _ h => absurd h List.not_mem_nil⟩)
set_option maxRecDepth 100000 in
theorem ct_X1_belowIn_0 : mc_X1_belowIn_0.all (ax_chkE mt_prog RX1 "belowIn" cX1_belowIn) = true := by decide +kernel
set_option maxRecDepth 100000 in
theorem ch_X1_belowIn : ax_chkH (mt_X1_belowIn, 622, 122) = true := by decide +kernel
theorem pk_X1_belowIn : ax_MOk mt_prog mt_X1_belowIn := ax_MOk_of ch_X1_belowIn (List.forall_mem_cons.mpr ⟨ct_X1_belowIn_0, fun _ h => absurd h List.not_mem_nil⟩)
set_option maxRecDepth 100000 in
theorem ct_X1_signIn_0 : mc_X1_signIn_0.all (ax_chkE mt_prog RX1 "signIn" cX1_signIn) = true := by decide +kernel
set_option maxRecDepth 100000 in
theorem ch_X1_signIn : ax_chkH (mt_X1_signIn, 628, 122) = true := by decide +kernel
theorem pk_X1_signIn : ax_MOk mt_prog mt_X1_signIn := ax_MOk_of ch_X1_signIn (List.forall_mem_cons.mpr ⟨ct_X1_signIn_0, fun _ h => absurd h List.not_mem_nil⟩)
set_option maxRecDepth 100000 in
theorem ct_X1_openIn_0 : mc_X1_openIn_0.all (ax_chkE mt_prog RX1 "openIn" cX1_openIn) = true := by decide +kernel
set_option maxRecDepth 100000 in
theorem ch_X1_openIn : ax_chkH (mt_X1_openIn, 615, 122) = true := by decide +kernel
theorem pk_X1_openIn : ax_MOk mt_prog mt_X1_openIn := ax_MOk_of ch_X1_openIn (List.forall_mem_cons.mpr ⟨ct_X1_openIn_0, fun _ h => absurd h List.not_mem_nil⟩)
set_option maxRecDepth 100000 in
theorem ct_X1_digestOn_0 : mc_X1_digestOn_0.all (ax_chkE mt_prog RX1 "digestOn" cX1_digestOn) = true := by decide +kernel
set_option maxRecDepth 100000 in
theorem ct_X1_digestOn_1 : mc_X1_digestOn_1.all (ax_chkE mt_prog RX1 "digestOn" cX1_digestOn) = true := by decide +kernel
set_option maxRecDepth 100000 in
theorem ch_X1_digestOn : ax_chkH (mt_X1_digestOn, 1089, 122) = true := by decide +kernel
theorem pk_X1_digestOn : ax_MOk mt_prog mt_X1_digestOn := ax_MOk_of ch_X1_digestOn (List.forall_mem_cons.mpr ⟨ct_X1_digestOn_0, List.forall_mem_cons.mpr ⟨ct_X1_digestOn_1, fun _ h => absurd h List.not_mem_nil⟩⟩)
set_option maxRecDepth 100000 in
theorem ct_X2_init_0 : mc_X2_init_0.all (ax_chkE mt_prog RX2 "<init>" cX2_init) = true := by decide +kernel
set_option maxRecDepth 100000 in
theorem ct_X2_init_1 : mc_X2_init_1.all (ax_chkE mt_prog RX2 "<init>" cX2_init) = true := by decide +kernel
set_option maxRecDepth 100000 in
theorem ct_X2_init_2 : mc_X2_init_2.all (ax_chkE mt_prog RX2 "<init>" cX2_init) = true := by decide +kernel
set_option maxRecDepth 100000 in
theorem ct_X2_init_3 : mc_X2_init_3.all (ax_chkE mt_prog RX2 "<init>" cX2_init) = true := by decide +kernel
set_option maxRecDepth 100000 in
theorem ch_X2_init : ax_chkH (mt_X2_init, 354, 125) = true := by decide +kernel
theorem pk_X2_init : ax_MOk mt_prog mt_X2_init := ax_MOk_of ch_X2_init (List.forall_mem_cons.mpr ⟨ct_X2_init_0, List.forall_mem_cons.mpr ⟨ct_X2_init_1, List.forall_mem_cons.mpr ⟨ct_X2_init_2, List.forall_mem_cons.mpr ⟨ct_X2_init_3, fun _ h => absurd h List.not_mem_nil⟩⟩⟩⟩)
