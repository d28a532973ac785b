/-! ===== the tables are checked ===== -/
set_option maxRecDepth 100000 in
theorem ct_X11_sweep_0 : mc_X11_sweep_0.all (ax_chkE mt_prog RX11 "sweep" cX11_sweep) = true := by decide +kernel
set_option maxRecDepth 100000 in
theorem ct_X11_sweep_1 : mc_X11_sweep_1.all (ax_chkE mt_prog RX11 "sweep" cX11_sweep) = true := by decide +kernel
set_option maxRecDepth 100000 in
theorem ch_X11_sweep : ax_chkH (mt_X11_sweep, 1463, 127) = true := by decide +kernel
theorem pk_X11_sweep : ax_MOk mt_prog mt_X11_sweep := ax_MOk_of ch_X11_sweep (List.forall_mem_cons.mpr ⟨ct_X11_sweep_0, List.forall_mem_cons.mpr ⟨ct_X11_sweep_1, fun _ h => absurd h List.not_mem_nil⟩⟩)
set_option maxRecDepth 100000 in
theorem ct_X11_stone_0 : mc_X11_stone_0.all (ax_chkE mt_prog RX11 "stone" cX11_stone) = true := by decide +kernel
set_option maxRecDepth 100000 in
theorem ct_X11_stone_1 : mc_X11_stone_1.all (ax_chkE mt_prog RX11 "stone" cX11_stone) = true := by decide +kernel
theorem ct_X11_stone_2 : mc_X11_stone_2.all (ax_chkE mt_prog RX11 "stone" cX11_stone) = true := rfl
set_option maxRecDepth 100000 in
theorem ct_X11_stone_3 : mc_X11_stone_3.all (ax_chkE mt_prog RX11 "stone" cX11_stone) = true := by decide +kernel
set_option maxRecDepth 100000 in
theorem ct_X11_stone_4 : mc_X11_stone_4.all (ax_chkE mt_prog RX11 "stone" cX11_stone) = true := by decide +kernel
set_option maxRecDepth 100000 in
theorem ch_X11_stone : ax_chkH (mt_X11_stone, 1475, 127) = true := by decide +kernel
theorem pk_X11_stone : ax_MOk mt_prog mt_X11_stone := ax_MOk_of ch_X11_stone (List.forall_mem_cons.mpr ⟨ct_X11_stone_0, List.forall_mem_cons.mpr ⟨ct_X11_stone_1, List.forall_mem_cons.mpr ⟨ct_X11_stone_2, List.forall_mem_cons.mpr ⟨ct_X11_stone_3, List.forall_mem_cons.mpr ⟨ct_X11_stone_4, fun _ h => absurd h List.not_mem_nil⟩⟩⟩⟩⟩)
set_option maxRecDepth 100000 in
theorem ct_X11_could_0 : mc_X11_could_0.all (ax_chkE mt_prog RX11 "could" cX11_could) = true := by decide +kernel
set_option maxRecDepth 100000 in
theorem ch_X11_could : ax_chkH (mt_X11_could, 1479, 127) = true := by decide +kernel
theorem pk_X11_could : ax_MOk mt_prog mt_X11_could := ax_MOk_of ch_X11_could (List.forall_mem_cons.mpr ⟨ct_X11_could_0, fun _ h => absurd h List.not_mem_nil⟩)
set_option maxRecDepth 100000 in
theorem ct_X11_says_0 : mc_X11_says_0.all (ax_chkE mt_prog RX11 "says" cX11_says) = true := by decide +kernel
set_option maxRecDepth 100000 in
theorem ch_X11_says : ax_chkH (mt_X11_says, 1516, 127) = true := by decide +kernel
theorem pk_X11_says : ax_MOk mt_prog mt_X11_says := ax_MOk_of ch_X11_says (List.forall_mem_cons.mpr ⟨ct_X11_says_0, fun _ h => absurd h List.not_mem_nil⟩)
set_option maxRecDepth 100000 in
theorem ct_X11_sure_0 : mc_X11_sure_0.all (ax_chkE mt_prog RX11 "sure" cX11_sure) = true := by decide +kernel
set_option maxRecDepth 100000 in
theorem ch_X11_sure : ax_chkH (mt_X11_sure, 1522, 127) = true := by decide +kernel
theorem pk_X11_sure : ax_MOk mt_prog mt_X11_sure := ax_MOk_of ch_X11_sure (List.forall_mem_cons.mpr ⟨ct_X11_sure_0, fun _ h => absurd h List.not_mem_nil⟩)
set_option maxRecDepth 100000 in
theorem ct_X11_isMason_0 : mc_X11_isMason_0.all (ax_chkE mt_prog RX11 "isMason" cX11_isMason) = true := by decide +kernel
set_option maxRecDepth 100000 in
theorem ch_X11_isMason : ax_chkH (mt_X11_isMason, 1529, 127) = true := by decide +kernel
theorem pk_X11_isMason : ax_MOk mt_prog mt_X11_isMason := ax_MOk_of ch_X11_isMason (List.forall_mem_cons.mpr ⟨ct_X11_isMason_0, fun _ h => absurd h List.not_mem_nil⟩)
set_option maxRecDepth 100000 in
theorem ct_X11_note_0 : mc_X11_note_0.all (ax_chkE mt_prog RX11 "note" cX11_note) = true := by decide +kernel
set_option maxRecDepth 100000 in
theorem ct_X11_note_1 : mc_X11_note_1.all (ax_chkE mt_prog RX11 "note" cX11_note) = true := by decide +kernel
set_option maxRecDepth 100000 in
theorem ct_X11_note_2 : mc_X11_note_2.all (ax_chkE mt_prog RX11 "note" cX11_note) = true := by decide +kernel
set_option maxRecDepth 100000 in
theorem ct_X11_note_3 : mc_X11_note_3.all (ax_chkE mt_prog RX11 "note" cX11_note) = true := by decide +kernel
set_option maxRecDepth 100000 in
theorem ch_X11_note : ax_chkH (mt_X11_note, 1526, 127) = true := by decide +kernel
theorem pk_X11_note : ax_MOk mt_prog mt_X11_note := ax_MOk_of ch_X11_note (List.forall_mem_cons.mpr ⟨ct_X11_note_0, List.forall_mem_cons.mpr ⟨ct_X11_note_1, List.forall_mem_cons.mpr ⟨ct_X11_note_2, List.forall_mem_cons.mpr ⟨ct_X11_note_3, fun _ h => absurd h List.not_mem_nil⟩⟩⟩⟩)
set_option maxRecDepth 100000 in
theorem ct_X11_habitOf_0 : mc_X11_habitOf_0.all (ax_chkE mt_prog RX11 "habitOf" cX11_habitOf) = true := by decide +kernel
theorem ct_X11_habitOf_1 : mc_X11_habitOf_1.all (ax_chkE mt_prog RX11 "habitOf" cX11_habitOf) = true := rfl
set_option maxRecDepth 100000 in
theorem ct_X11_habitOf_2 : mc_X11_habitOf_2.all (ax_chkE mt_prog RX11 "habitOf" cX11_habitOf) = true := by decide +kernel
set_option maxRecDepth 100000 in
theorem ch_X11_habitOf : ax_chkH (mt_X11_habitOf, 1537, 127) = true := by decide +kernel
theorem pk_X11_habitOf : ax_MOk mt_prog mt_X11_habitOf := ax_MOk_of ch_X11_habitOf (List.forall_mem_cons.mpr ⟨ct_X11_habitOf_0, List.forall_mem_cons.mpr ⟨ct_X11_habitOf_1, List.forall_mem_cons.mpr ⟨ct_X11_habitOf_2, fun _ h => absurd h List.not_mem_nil⟩⟩⟩)
set_option maxRecDepth 100000 in
theorem ct_X11_habit_0 : mc_X11_habit_0.all (ax_chkE mt_prog RX11 "habit" cX11_habit) = true := by decide +kernel
set_option maxRecDepth 100000 in
theorem ch_X11_habit : ax_chkH (mt_X11_habit, 1533, 127) = true := by decide +kernel
theorem pk_X11_habit : ax_MOk mt_prog mt_X11_habit := ax_MOk_of ch_X11_habit (List.forall_mem_cons.mpr ⟨ct_X11_habit_0, fun _ h => absurd h List.not_mem_nil⟩)
set_option maxRecDepth 100000 in
theorem ct_X11_hands_0 : mc_X11_hands_0.all (ax_chkE mt_prog RX11 "hands" cX11_hands) = true := by decide +kernel
set_option maxRecDepth 100000 in
theorem ct_X11_hands_1 : mc_X11_hands_1.all (ax_chkE mt_prog RX11 "hands" cX11_hands) = true := by decide +kernel
set_option maxRecDepth 100000 in
theorem ct_X11_hands_2 : mc_X11_hands_2.all (ax_chkE mt_prog RX11 "hands" cX11_hands) = true := by decide +kernel
set_option maxRecDepth 100000 in
theorem ct_X11_hands_3 : mc_X11_hands_3.all (ax_chkE mt_prog RX11 "hands" cX11_hands) = true := by decide +kernel
set_option maxRecDepth 100000 in
theorem ch_X11_hands : ax_chkH (mt_X11_hands, 1541, 127) = true := by decide +kernel
theorem pk_X11_hands : ax_MOk mt_prog mt_X11_hands := ax_MOk_of ch_X11_hands (List.forall_mem_cons.mpr ⟨ct_X11_hands_0, List.forall_mem_cons.mpr ⟨ct_X11_hands_1, List.forall_mem_cons.mpr ⟨ct_X11_hands_2, List.forall_mem_cons.mpr ⟨ct_X11_hands_3, fun _ h => absurd h List.not_mem_nil⟩⟩⟩⟩)
set_option maxRecDepth 100000 in
theorem ct_X11_line_0 : mc_X11_line_0.all (ax_chkE mt_prog RX11 "line" cX11_line) = true := by decide +kernel
set_option maxRecDepth 100000 in
theorem ct_X11_line_1 : mc_X11_line_1.all (ax_chkE mt_prog RX11 "line" cX11_line) = true := by decide +kernel
set_option maxRecDepth 100000 in
theorem ct_X11_line_2 : mc_X11_line_2.all (ax_chkE mt_prog RX11 "line" cX11_line) = true := by decide +kernel
set_option maxRecDepth 100000 in
theorem ch_X11_line : ax_chkH (mt_X11_line, 1545, 127) = true := by decide +kernel
theorem pk_X11_line : ax_MOk mt_prog mt_X11_line := ax_MOk_of ch_X11_line (List.forall_mem_cons.mpr ⟨ct_X11_line_0, List.forall_mem_cons.mpr ⟨ct_X11_line_1, List.forall_mem_cons.mpr ⟨ct_X11_line_2, fun _ h => absurd h List.not_mem_nil⟩⟩⟩)
set_option maxRecDepth 100000 in
theorem ct_X11_layLine_0 : mc_X11_layLine_0.all (ax_chkE mt_prog RX11 "layLine" cX11_layLine) = true := by decide +kernel
set_option maxRecDepth 100000 in
theorem ct_X11_layLine_1 : mc_X11_layLine_1.all (ax_chkE mt_prog RX11 "layLine" cX11_layLine) = true := by decide +kernel
set_option maxRecDepth 100000 in
theorem ch_X11_layLine : ax_chkH (mt_X11_layLine, 1549, 127) = true := by decide +kernel
theorem pk_X11_layLine : ax_MOk mt_prog mt_X11_layLine := ax_MOk_of ch_X11_layLine (List.forall_mem_cons.mpr ⟨ct_X11_layLine_0, List.forall_mem_cons.mpr ⟨ct_X11_layLine_1, fun _ h => absurd h List.not_mem_nil⟩⟩)
set_option maxRecDepth 100000 in
theorem ct_X11_tear_0 : mc_X11_tear_0.all (ax_chkE mt_prog RX11 "tear" cX11_tear) = true := by decide +kernel
set_option maxRecDepth 100000 in
theorem ch_X11_tear : ax_chkH (mt_X11_tear, 1553, 127) = true := by decide +kernel
theorem pk_X11_tear : ax_MOk mt_prog mt_X11_tear := ax_MOk_of ch_X11_tear (List.forall_mem_cons.mpr ⟨ct_X11_tear_0, fun _ h => absurd h List.not_mem_nil⟩)
set_option maxRecDepth 100000 in
theorem ct_X11_wrongAt_0 : mc_X11_wrongAt_0.all (ax_chkE mt_prog RX11 "wrongAt" cX11_wrongAt) = true := by decide +kernel
set_option maxRecDepth 100000 in
theorem ct_X11_wrongAt_1 : mc_X11_wrongAt_1.all (ax_chkE mt_prog RX11 "wrongAt" cX11_wrongAt) = true := by decide +kernel
set_option maxRecDepth 100000 in
theorem ch_X11_wrongAt : ax_chkH (mt_X11_wrongAt, 1561, 127) = true := by decide +kernel
theorem pk_X11_wrongAt : ax_MOk mt_prog mt_X11_wrongAt := ax_MOk_of ch_X11_wrongAt (List.forall_mem_cons.mpr ⟨ct_X11_wrongAt_0, List.forall_mem_cons.mpr ⟨ct_X11_wrongAt_1, fun _ h => absurd h List.not_mem_nil⟩⟩)
set_option maxRecDepth 100000 in
theorem ct_X11_wrong_0 : mc_X11_wrong_0.all (ax_chkE mt_prog RX11 "wrong" cX11_wrong) = true := by decide +kernel
set_option maxRecDepth 100000 in
theorem ch_X11_wrong : ax_chkH (mt_X11_wrong, 1557, 127) = true := by decide +kernel
theorem pk_X11_wrong : ax_MOk mt_prog mt_X11_wrong := ax_MOk_of ch_X11_wrong (List.forall_mem_cons.mpr ⟨ct_X11_wrong_0, fun _ h => absurd h List.not_mem_nil⟩)
set_option maxRecDepth 100000 in
theorem ct_X11_mended_0 : mc_X11_mended_0.all (ax_chkE mt_prog RX11 "mended" cX11_mended) = true := by decide +kernel
set_option maxRecDepth 100000 in
theorem ct_X11_mended_1 : mc_X11_mended_1.all (ax_chkE mt_prog RX11 "mended" cX11_mended) = true := by decide +kernel
set_option maxRecDepth 100000 in
theorem ch_X11_mended : ax_chkH (mt_X11_mended, 1573, 127) = true := by decide +kernel
theorem pk_X11_mended : ax_MOk mt_prog mt_X11_mended := ax_MOk_of ch_X11_mended (List.forall_mem_cons.mpr ⟨ct_X11_mended_0, List.forall_mem_cons.mpr ⟨ct_X11_mended_1, fun _ h => absurd h List.not_mem_nil⟩⟩)
set_option maxRecDepth 100000 in
theorem ct_X11_seekSlip_0 : mc_X11_seekSlip_0.all (ax_chkE mt_prog RX11 "seekSlip" cX11_seekSlip) = true := by decide +kernel
theorem ct_X11_seekSlip_1 : mc_X11_seekSlip_1.all (ax_chkE mt_prog RX11 "seekSlip" cX11_seekSlip) = true := rfl
theorem ct_X11_seekSlip_2 : mc_X11_seekSlip_2.all (ax_chkE mt_prog RX11 "seekSlip" cX11_seekSlip) = true := rfl
theorem ct_X11_seekSlip_3 : mc_X11_seekSlip_3.all (ax_chkE mt_prog RX11 "seekSlip" cX11_seekSlip) = true := rfl
theorem ct_X11_seekSlip_4 : mc_X11_seekSlip_4.all (ax_chkE mt_prog RX11 "seekSlip" cX11_seekSlip) = true := rfl
theorem ct_X11_seekSlip_5 : mc_X11_seekSlip_5.all (ax_chkE mt_prog RX11 "seekSlip" cX11_seekSlip) = true := rfl
set_option maxRecDepth 100000 in
theorem ct_X11_seekSlip_6 : mc_X11_seekSlip_6.all (ax_chkE mt_prog RX11 "seekSlip" cX11_seekSlip) = true := by decide +kernel
set_option maxRecDepth 100000 in
theorem ch_X11_seekSlip : ax_chkH (mt_X11_seekSlip, 1581, 127) = true := by decide +kernel
theorem pk_X11_seekSlip : ax_MOk mt_prog mt_X11_seekSlip := ax_MOk_of ch_X11_seekSlip (List.forall_mem_cons.mpr ⟨ct_X11_seekSlip_0, List.forall_mem_cons.mpr ⟨ct_X11_seekSlip_1, List.forall_mem_cons.mpr ⟨ct_X11_seekSlip_2, List.forall_mem_cons.mpr ⟨ct_X11_seekSlip_3, List.forall_mem_cons.mpr ⟨ct_X11_seekSlip_4, List.forall_mem_cons.mpr ⟨ct_X11_seekSlip_5, List.forall_mem_cons.mpr ⟨ct_X11_seekSlip_6, fun _ h => absurd h List.not_mem_nil⟩⟩⟩⟩⟩⟩⟩)
set_option maxRecDepth 100000 in
theorem ct_X11_slip_0 : mc_X11_slip_0.all (ax_chkE mt_prog RX11 "slip" cX11_slip) = true := by decide +kernel
set_option maxRecDepth 100000 in
theorem ch_X11_slip : ax_chkH (mt_X11_slip, 1577, 127) = true := by decide +kernel
theorem pk_X11_slip : ax_MOk mt_prog mt_X11_slip := ax_MOk_of ch_X11_slip (List.forall_mem_cons.mpr ⟨ct_X11_slip_0, fun _ h => absurd h List.not_mem_nil⟩)
set_option maxRecDepth 100000 in
theorem ct_X11_count_0 : mc_X11_count_0.all (ax_chkE mt_prog RX11 "count" cX11_count) = true := by decide +kernel
set_option maxRecDepth 100000 in
theorem ct_X11_count_1 : mc_X11_count_1.all (ax_chkE mt_prog RX11 "count" cX11_count) = true := by decide +kernel
set_option maxRecDepth 100000 in
theorem ct_X11_count_2 : mc_X11_count_2.all (ax_chkE mt_prog RX11 "count" cX11_count) = true := by decide +kernel
set_option maxRecDepth 100000 in
theorem ch_X11_count : ax_chkH (mt_X11_count, 1593, 127) = true := by decide +kernel
theorem pk_X11_count : ax_MOk mt_prog mt_X11_count := ax_MOk_of ch_X11_count (List.forall_mem_cons.mpr ⟨ct_X11_count_0, List.forall_mem_cons.mpr ⟨ct_X11_count_1, List.forall_mem_cons.mpr ⟨ct_X11_count_2, fun _ h => absurd h List.not_mem_nil⟩⟩⟩)
set_option maxRecDepth 100000 in
theorem ct_X11_mix_0 : mc_X11_mix_0.all (ax_chkE mt_prog RX11 "mix" cX11_mix) = true := by decide +kernel
set_option maxRecDepth 100000 in
theorem ch_X11_mix : ax_chkH (mt_X11_mix, 1602, 127) = true := by decide +kernel
theorem pk_X11_mix : ax_MOk mt_prog mt_X11_mix := ax_MOk_of ch_X11_mix (List.forall_mem_cons.mpr ⟨ct_X11_mix_0, fun _ h => absurd h List.not_mem_nil⟩)
set_option maxRecDepth 100000 in
theorem ct_X11_mixCustoms_0 : mc_X11_mixCustoms_0.all (ax_chkE mt_prog RX11 "mixCustoms" cX11_mixCustoms) = true := by decide +kernel
set_option maxRecDepth 100000 in
theorem ct_X11_mixCustoms_1 : mc_X11_mixCustoms_1.all (ax_chkE mt_prog RX11 "mixCustoms" cX11_mixCustoms) = true := by decide +kernel
set_option maxRecDepth 100000 in
theorem ch_X11_mixCustoms : ax_chkH (mt_X11_mixCustoms, 1607, 127) = true := by decide +kernel
theorem pk_X11_mixCustoms : ax_MOk mt_prog mt_X11_mixCustoms := ax_MOk_of ch_X11_mixCustoms (List.forall_mem_cons.mpr ⟨ct_X11_mixCustoms_0, List.forall_mem_cons.mpr ⟨ct_X11_mixCustoms_1, fun _ h => absurd h List.not_mem_nil⟩⟩)
set_option maxRecDepth 100000 in
theorem ct_X11_digest_0 : mc_X11_digest_0.all (ax_chkE mt_prog RX11 "digest" cX11_digest) = true := by decide +kernel
set_option maxRecDepth 100000 in
theorem ct_X11_digest_1 : mc_X11_digest_1.all (ax_chkE mt_prog RX11 "digest" cX11_digest) = true := by decide +kernel
set_option maxRecDepth 100000 in
theorem ct_X11_digest_2 : mc_X11_digest_2.all (ax_chkE mt_prog RX11 "digest" cX11_digest) = true := by decide +kernel
set_option maxRecDepth 100000 in
theorem ct_X11_digest_3 : mc_X11_digest_3.all (ax_chkE mt_prog RX11 "digest" cX11_digest) = true := by decide +kernel
set_option maxRecDepth 100000 in
theorem ct_X11_digest_4 : mc_X11_digest_4.all (ax_chkE mt_prog RX11 "digest" cX11_digest) = true := by decide +kernel
set_option maxRecDepth 100000 in
theorem ct_X11_digest_5 : mc_X11_digest_5.all (ax_chkE mt_prog RX11 "digest" cX11_digest) = true := by decide +kernel
set_option maxRecDepth 100000 in
theorem ct_X11_digest_6 : mc_X11_digest_6.all (ax_chkE mt_prog RX11 "digest" cX11_digest) = true := by decide +kernel
set_option maxRecDepth 100000 in
theorem ct_X11_digest_7 : mc_X11_digest_7.all (ax_chkE mt_prog RX11 "digest" cX11_digest) = true := by decide +kernel
set_option maxRecDepth 100000 in
theorem ct_X11_digest_8 : mc_X11_digest_8.all (ax_chkE mt_prog RX11 "digest" cX11_digest) = true := by decide +kernel
set_option maxRecDepth 100000 in
theorem ch_X11_digest : ax_chkH (mt_X11_digest, 1597, 127) = true := by decide +kernel
theorem pk_X11_digest : ax_MOk mt_prog mt_X11_digest := ax_MOk_of ch_X11_digest (List.forall_mem_cons.mpr ⟨ct_X11_digest_0, List.forall_mem_cons.mpr ⟨ct_X11_digest_1, List.forall_mem_cons.mpr ⟨ct_X11_digest_2, List.forall_mem_cons.mpr ⟨ct_X11_digest_3, List.forall_mem_cons.mpr ⟨ct_X11_digest_4, List.forall_mem_cons.mpr ⟨ct_X11_digest_5, List.forall_mem_cons.mpr ⟨ct_X11_digest_6, List.forall_mem_cons.mpr ⟨ct_X11_digest_7, List.forall_mem_cons.mpr ⟨ct_X11_digest_8, fun _ h => absurd h List.not_mem_nil⟩⟩⟩⟩⟩⟩⟩⟩⟩)
