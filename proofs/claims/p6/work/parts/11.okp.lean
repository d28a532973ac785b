/-! ===== the tables are checked ===== -/
set_option maxRecDepth 100000 in
theorem ct_X11_stone_0 : mc_X11_stone_0.all (ax_chkE mt_prog RX11 "stone" cX11_stone) = true := by decide +kernel
set_option maxRecDepth 100000 in
theorem ct_X11_stone_1 : mc_X11_stone_1.all (ax_chkE mt_prog RX11 "stone" cX11_stone) = true := by decide +kernel
set_option maxRecDepth 100000 in
theorem ct_X11_stone_2 : mc_X11_stone_2.all (ax_chkE mt_prog RX11 "stone" cX11_stone) = true := by decide +kernel
set_option maxRecDepth 100000 in
theorem ct_X11_stone_3 : mc_X11_stone_3.all (ax_chkE mt_prog RX11 "stone" cX11_stone) = true := by decide +kernel
set_option maxRecDepth 100000 in
theorem ct_X11_stone_4 : mc_X11_stone_4.all (ax_chkE mt_prog RX11 "stone" cX11_stone) = true := by decide +kernel
set_option maxRecDepth 100000 in
theorem ct_X11_stone_5 : mc_X11_stone_5.all (ax_chkE mt_prog RX11 "stone" cX11_stone) = true := by decide +kernel
set_option maxRecDepth 100000 in
theorem ct_X11_stone_6 : mc_X11_stone_6.all (ax_chkE mt_prog RX11 "stone" cX11_stone) = true := by decide +kernel
set_option maxRecDepth 100000 in
theorem ch_X11_stone : ax_chkH (mt_X11_stone, 1475, 127) = true := by decide +kernel
theorem pk_X11_stone : ax_MOk mt_prog mt_X11_stone := ax_MOk_of ch_X11_stone (List.forall_mem_cons.mpr ⟨ct_X11_stone_0, List.forall_mem_cons.mpr ⟨ct_X11_stone_1, List.forall_mem_cons.mpr ⟨ct_X11_stone_2, List.forall_mem_cons.mpr ⟨ct_X11_stone_3, List.forall_mem_cons.mpr ⟨ct_X11_stone_4, List.forall_mem_cons.mpr ⟨ct_X11_stone_5, List.forall_mem_cons.mpr ⟨ct_X11_stone_6, fun _ h => absurd h List.not_mem_nil⟩⟩⟩⟩⟩⟩⟩)
set_option maxRecDepth 100000 in
theorem ct_X11_say_0 : mc_X11_say_0.all (ax_chkE mt_prog RX11 "say" cX11_say) = true := by decide +kernel
set_option maxRecDepth 100000 in
theorem ct_X11_say_1 : mc_X11_say_1.all (ax_chkE mt_prog RX11 "say" cX11_say) = true := by decide +kernel
set_option maxRecDepth 100000 in
theorem ct_X11_say_2 : mc_X11_say_2.all (ax_chkE mt_prog RX11 "say" cX11_say) = true := by decide +kernel
set_option maxRecDepth 100000 in
theorem ch_X11_say : ax_chkH (mt_X11_say, 1511, 127) = true := by decide +kernel
theorem pk_X11_say : ax_MOk mt_prog mt_X11_say := ax_MOk_of ch_X11_say (List.forall_mem_cons.mpr ⟨ct_X11_say_0, List.forall_mem_cons.mpr ⟨ct_X11_say_1, List.forall_mem_cons.mpr ⟨ct_X11_say_2, fun _ h => absurd h List.not_mem_nil⟩⟩⟩)
set_option maxRecDepth 100000 in
theorem ct_X11_fillAll_0 : mc_X11_fillAll_0.all (ax_chkE mt_prog RX11 "fillAll" cX11_fillAll) = true := by decide +kernel
set_option maxRecDepth 100000 in
theorem ct_X11_fillAll_1 : mc_X11_fillAll_1.all (ax_chkE mt_prog RX11 "fillAll" cX11_fillAll) = true := by decide +kernel
set_option maxRecDepth 100000 in
theorem ct_X11_fillAll_2 : mc_X11_fillAll_2.all (ax_chkE mt_prog RX11 "fillAll" cX11_fillAll) = true := by decide +kernel
set_option maxRecDepth 100000 in
theorem ch_X11_fillAll : ax_chkH (mt_X11_fillAll, 1487, 127) = true := by decide +kernel
theorem pk_X11_fillAll : ax_MOk mt_prog mt_X11_fillAll := ax_MOk_of ch_X11_fillAll (List.forall_mem_cons.mpr ⟨ct_X11_fillAll_0, List.forall_mem_cons.mpr ⟨ct_X11_fillAll_1, List.forall_mem_cons.mpr ⟨ct_X11_fillAll_2, fun _ h => absurd h List.not_mem_nil⟩⟩⟩)
set_option maxRecDepth 100000 in
theorem ct_X11_fillTo_0 : mc_X11_fillTo_0.all (ax_chkE mt_prog RX11 "fillTo" cX11_fillTo) = true := by decide +kernel
set_option maxRecDepth 100000 in
theorem ct_X11_fillTo_1 : mc_X11_fillTo_1.all (ax_chkE mt_prog RX11 "fillTo" cX11_fillTo) = true := by decide +kernel
set_option maxRecDepth 100000 in
theorem ct_X11_fillTo_2 : mc_X11_fillTo_2.all (ax_chkE mt_prog RX11 "fillTo" cX11_fillTo) = true := by decide +kernel
set_option maxRecDepth 100000 in
theorem ct_X11_fillTo_3 : mc_X11_fillTo_3.all (ax_chkE mt_prog RX11 "fillTo" cX11_fillTo) = true := by decide +kernel
set_option maxRecDepth 100000 in
theorem ct_X11_fillTo_4 : mc_X11_fillTo_4.all (ax_chkE mt_prog RX11 "fillTo" cX11_fillTo) = true := by decide +kernel
set_option maxRecDepth 100000 in
theorem ch_X11_fillTo : ax_chkH (mt_X11_fillTo, 1491, 127) = true := by decide +kernel
theorem pk_X11_fillTo : ax_MOk mt_prog mt_X11_fillTo := ax_MOk_of ch_X11_fillTo (List.forall_mem_cons.mpr ⟨ct_X11_fillTo_0, List.forall_mem_cons.mpr ⟨ct_X11_fillTo_1, List.forall_mem_cons.mpr ⟨ct_X11_fillTo_2, List.forall_mem_cons.mpr ⟨ct_X11_fillTo_3, List.forall_mem_cons.mpr ⟨ct_X11_fillTo_4, fun _ h => absurd h List.not_mem_nil⟩⟩⟩⟩⟩)
set_option maxRecDepth 100000 in
theorem ct_X11_isOpen_0 : mc_X11_isOpen_0.all (ax_chkE mt_prog RX11 "isOpen" cX11_isOpen) = true := by decide +kernel
set_option maxRecDepth 100000 in
theorem ch_X11_isOpen : ax_chkH (mt_X11_isOpen, 1499, 127) = true := by decide +kernel
theorem pk_X11_isOpen : ax_MOk mt_prog mt_X11_isOpen := ax_MOk_of ch_X11_isOpen (List.forall_mem_cons.mpr ⟨ct_X11_isOpen_0, fun _ h => absurd h List.not_mem_nil⟩)
set_option maxRecDepth 100000 in
theorem ct_X11_first_0 : mc_X11_first_0.all (ax_chkE mt_prog RX11 "first" cX11_first) = true := by decide +kernel
set_option maxRecDepth 100000 in
theorem ch_X11_first : ax_chkH (mt_X11_first, 1495, 127) = true := by decide +kernel
theorem pk_X11_first : ax_MOk mt_prog mt_X11_first := ax_MOk_of ch_X11_first (List.forall_mem_cons.mpr ⟨ct_X11_first_0, fun _ h => absurd h List.not_mem_nil⟩)
set_option maxRecDepth 100000 in
theorem ct_X11_after_0 : mc_X11_after_0.all (ax_chkE mt_prog RX11 "after" cX11_after) = true := by decide +kernel
set_option maxRecDepth 100000 in
theorem ch_X11_after : ax_chkH (mt_X11_after, 1503, 127) = true := by decide +kernel
theorem pk_X11_after : ax_MOk mt_prog mt_X11_after := ax_MOk_of ch_X11_after (List.forall_mem_cons.mpr ⟨ct_X11_after_0, fun _ h => absurd h List.not_mem_nil⟩)
set_option maxRecDepth 100000 in
theorem ct_X11_take_0 : mc_X11_take_0.all (ax_chkE mt_prog RX11 "take" cX11_take) = true := by decide +kernel
set_option maxRecDepth 100000 in
theorem ct_X11_take_1 : mc_X11_take_1.all (ax_chkE mt_prog RX11 "take" cX11_take) = true := by decide +kernel
set_option maxRecDepth 100000 in
theorem ct_X11_take_2 : mc_X11_take_2.all (ax_chkE mt_prog RX11 "take" cX11_take) = true := by decide +kernel
set_option maxRecDepth 100000 in
theorem ch_X11_take : ax_chkH (mt_X11_take, 1507, 127) = true := by decide +kernel
theorem pk_X11_take : ax_MOk mt_prog mt_X11_take := ax_MOk_of ch_X11_take (List.forall_mem_cons.mpr ⟨ct_X11_take_0, List.forall_mem_cons.mpr ⟨ct_X11_take_1, List.forall_mem_cons.mpr ⟨ct_X11_take_2, fun _ h => absurd h List.not_mem_nil⟩⟩⟩)
set_option maxRecDepth 100000 in
theorem ct_X11_isShut_0 : mc_X11_isShut_0.all (ax_chkE mt_prog RX11 "isShut" cX11_isShut) = true := by decide +kernel
set_option maxRecDepth 100000 in
theorem ch_X11_isShut : ax_chkH (mt_X11_isShut, 1483, 127) = true := by decide +kernel
theorem pk_X11_isShut : ax_MOk mt_prog mt_X11_isShut := ax_MOk_of ch_X11_isShut (List.forall_mem_cons.mpr ⟨ct_X11_isShut_0, fun _ h => absurd h List.not_mem_nil⟩)
set_option maxRecDepth 100000 in
theorem ct_X11_could_0 : mc_X11_could_0.all (ax_chkE mt_prog RX11 "could" cX11_could) = true := by decide +kernel
set_option maxRecDepth 100000 in
theorem ct_X11_could_1 : mc_X11_could_1.all (ax_chkE mt_prog RX11 "could" cX11_could) = true := by decide +kernel
set_option maxRecDepth 100000 in
theorem ch_X11_could : ax_chkH (mt_X11_could, 1479, 127) = true := by decide +kernel
theorem pk_X11_could : ax_MOk mt_prog mt_X11_could := ax_MOk_of ch_X11_could (List.forall_mem_cons.mpr ⟨ct_X11_could_0, List.forall_mem_cons.mpr ⟨ct_X11_could_1, fun _ h => absurd h List.not_mem_nil⟩⟩)
set_option maxRecDepth 100000 in
theorem ct_X11_says_0 : mc_X11_says_0.all (ax_chkE mt_prog RX11 "says" cX11_says) = true := by decide +kernel
set_option maxRecDepth 100000 in
theorem ct_X11_says_1 : mc_X11_says_1.all (ax_chkE mt_prog RX11 "says" cX11_says) = true := by decide +kernel
set_option maxRecDepth 100000 in
theorem ct_X11_says_2 : mc_X11_says_2.all (ax_chkE mt_prog RX11 "says" cX11_says) = true := by decide +kernel
set_option maxRecDepth 100000 in
theorem ct_X11_says_3 : mc_X11_says_3.all (ax_chkE mt_prog RX11 "says" cX11_says) = true := by decide +kernel
set_option maxRecDepth 100000 in
theorem ct_X11_says_4 : mc_X11_says_4.all (ax_chkE mt_prog RX11 "says" cX11_says) = true := by decide +kernel
set_option maxRecDepth 100000 in
theorem ch_X11_says : ax_chkH (mt_X11_says, 1516, 127) = true := by decide +kernel
theorem pk_X11_says : ax_MOk mt_prog mt_X11_says := ax_MOk_of ch_X11_says (List.forall_mem_cons.mpr ⟨ct_X11_says_0, List.forall_mem_cons.mpr ⟨ct_X11_says_1, List.forall_mem_cons.mpr ⟨ct_X11_says_2, List.forall_mem_cons.mpr ⟨ct_X11_says_3, List.forall_mem_cons.mpr ⟨ct_X11_says_4, fun _ h => absurd h List.not_mem_nil⟩⟩⟩⟩⟩)
