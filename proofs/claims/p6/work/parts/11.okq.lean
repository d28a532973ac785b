/-! ===== the tables are checked ===== -/
set_option maxRecDepth 100000 in
theorem ct_X11_sure_0 : mc_X11_sure_0.all (ax_chkE mt_prog RX11 "sure" cX11_sure) = true := by decide +kernel
set_option maxRecDepth 100000 in
theorem ct_X11_sure_1 : mc_X11_sure_1.all (ax_chkE mt_prog RX11 "sure" cX11_sure) = true := by decide +kernel
set_option maxRecDepth 100000 in
theorem ct_X11_sure_2 : mc_X11_sure_2.all (ax_chkE mt_prog RX11 "sure" cX11_sure) = true := by decide +kernel
set_option maxRecDepth 100000 in
theorem ch_X11_sure : ax_chkH (mt_X11_sure, 1522, 127) = true := by decide +kernel
theorem pk_X11_sure : ax_MOk mt_prog mt_X11_sure := ax_MOk_of ch_X11_sure (List.forall_mem_cons.mpr ⟨ct_X11_sure_0, List.forall_mem_cons.mpr ⟨ct_X11_sure_1, List.forall_mem_cons.mpr ⟨ct_X11_sure_2, fun _ h => absurd h List.not_mem_nil⟩⟩⟩)
set_option maxRecDepth 100000 in
theorem ct_X11_isMason_0 : mc_X11_isMason_0.all (ax_chkE mt_prog RX11 "isMason" cX11_isMason) = true := by decide +kernel
set_option maxRecDepth 100000 in
theorem ch_X11_isMason : ax_chkH (mt_X11_isMason, 1529, 127) = true := by decide +kernel
theorem pk_X11_isMason : ax_MOk mt_prog mt_X11_isMason := ax_MOk_of ch_X11_isMason (List.forall_mem_cons.mpr ⟨ct_X11_isMason_0, fun _ h => absurd h List.not_mem_nil⟩)
set_option maxRecDepth 100000 in
theorem ct_X11_note_0 : mc_X11_note_0.all (ax_chkE mt_prog RX11 "note" cX11_note) = true := by decide +kernel
set_option maxRecDepth 100000 in
theorem ct_X11_note_1 : mc_X11_note_1.all (ax_chkE mt_prog RX11 "note" cX11_note) = true := by decide +kernel
set_option maxRecDepth 100000 in
theorem ct_X11_note_2 : mc_X11_note_2.all (ax_chkE mt_prog RX11 "note" cX11_note) = true := by decide +kernel
set_option maxRecDepth 100000 in
theorem ct_X11_note_3 : mc_X11_note_3.all (ax_chkE mt_prog RX11 "note" cX11_note) = true := by decide +kernel
set_option maxRecDepth 100000 in
theorem ch_X11_note : ax_chkH (mt_X11_note, 1526, 127) = true := by decide +kernel
theorem pk_X11_note : ax_MOk mt_prog mt_X11_note := ax_MOk_of ch_X11_note (List.forall_mem_cons.mpr ⟨ct_X11_note_0, List.forall_mem_cons.mpr ⟨ct_X11_note_1, List.forall_mem_cons.mpr ⟨ct_X11_note_2, List.forall_mem_cons.mpr ⟨ct_X11_note_3, fun _ h => absurd h List.not_mem_nil⟩⟩⟩⟩)
set_option maxRecDepth 100000 in
theorem ct_X11_habitOf_0 : mc_X11_habitOf_0.all (ax_chkE mt_prog RX11 "habitOf" cX11_habitOf) = true := by decide +kernel
set_option maxRecDepth 100000 in
theorem ct_X11_habitOf_1 : mc_X11_habitOf_1.all (ax_chkE mt_prog RX11 "habitOf" cX11_habitOf) = true := by decide +kernel
set_option maxRecDepth 100000 in
theorem ct_X11_habitOf_2 : mc_X11_habitOf_2.all (ax_chkE mt_prog RX11 "habitOf" cX11_habitOf) = true := by decide +kernel
set_option maxRecDepth 100000 in
theorem ch_X11_habitOf : ax_chkH (mt_X11_habitOf, 1537, 127) = true := by decide +kernel
theorem pk_X11_habitOf : ax_MOk mt_prog mt_X11_habitOf := ax_MOk_of ch_X11_habitOf (List.forall_mem_cons.mpr ⟨ct_X11_habitOf_0, List.forall_mem_cons.mpr ⟨ct_X11_habitOf_1, List.forall_mem_cons.mpr ⟨ct_X11_habitOf_2, fun _ h => absurd h List.not_mem_nil⟩⟩⟩)
set_option maxRecDepth 100000 in
theorem ct_X11_habit_0 : mc_X11_habit_0.all (ax_chkE mt_prog RX11 "habit" cX11_habit) = true := by decide +kernel
set_option maxRecDepth 100000 in
theorem ch_X11_habit : ax_chkH (mt_X11_habit, 1533, 127) = true := by decide +kernel
theorem pk_X11_habit : ax_MOk mt_prog mt_X11_habit := ax_MOk_of ch_X11_habit (List.forall_mem_cons.mpr ⟨ct_X11_habit_0, fun _ h => absurd h List.not_mem_nil⟩)
set_option maxRecDepth 100000 in
theorem ct_X11_hands_0 : mc_X11_hands_0.all (ax_chkE mt_prog RX11 "hands" cX11_hands) = true := by decide +kernel
set_option maxRecDepth 100000 in
theorem ct_X11_hands_1 : mc_X11_hands_1.all (ax_chkE mt_prog RX11 "hands" cX11_hands) = true := by decide +kernel
set_option maxRecDepth 100000 in
theorem ct_X11_hands_2 : mc_X11_hands_2.all (ax_chkE mt_prog RX11 "hands" cX11_hands) = true := by decide +kernel
set_option maxRecDepth 100000 in
theorem ct_X11_hands_3 : mc_X11_hands_3.all (ax_chkE mt_prog RX11 "hands" cX11_hands) = true := by decide +kernel
set_option maxRecDepth 100000 in
theorem ch_X11_hands : ax_chkH (mt_X11_hands, 1541, 127) = true := by decide +kernel
theorem pk_X11_hands : ax_MOk mt_prog mt_X11_hands := ax_MOk_of ch_X11_hands (List.forall_mem_cons.mpr ⟨ct_X11_hands_0, List.forall_mem_cons.mpr ⟨ct_X11_hands_1, List.forall_mem_cons.mpr ⟨ct_X11_hands_2, List.forall_mem_cons.mpr ⟨ct_X11_hands_3, fun _ h => absurd h List.not_mem_nil⟩⟩⟩⟩)
set_option maxRecDepth 100000 in
theorem ct_X11_line_0 : mc_X11_line_0.all (ax_chkE mt_prog RX11 "line" cX11_line) = true := by decide +kernel
set_option maxRecDepth 100000 in
theorem ct_X11_line_1 : mc_X11_line_1.all (ax_chkE mt_prog RX11 "line" cX11_line) = true := by decide +kernel
set_option maxRecDepth 100000 in
theorem ct_X11_line_2 : mc_X11_line_2.all (ax_chkE mt_prog RX11 "line" cX11_line) = true := by decide +kernel
set_option maxRecDepth 100000 in
theorem ch_X11_line : ax_chkH (mt_X11_line, 1545, 127) = true := by decide +kernel
theorem pk_X11_line : ax_MOk mt_prog mt_X11_line := ax_MOk_of ch_X11_line (List.forall_mem_cons.mpr ⟨ct_X11_line_0, List.forall_mem_cons.mpr ⟨ct_X11_line_1, List.forall_mem_cons.mpr ⟨ct_X11_line_2, fun _ h => absurd h List.not_mem_nil⟩⟩⟩)
set_option maxRecDepth 100000 in
theorem ct_X11_layLine_0 : mc_X11_layLine_0.all (ax_chkE mt_prog RX11 "layLine" cX11_layLine) = true := by decide +kernel
set_option maxRecDepth 100000 in
theorem ct_X11_layLine_1 : mc_X11_layLine_1.all (ax_chkE mt_prog RX11 "layLine" cX11_layLine) = true := by decide +kernel
set_option maxRecDepth 100000 in
theorem ch_X11_layLine : ax_chkH (mt_X11_layLine, 1549, 127) = true := by decide +kernel
theorem pk_X11_layLine : ax_MOk mt_prog mt_X11_layLine := ax_MOk_of ch_X11_layLine (List.forall_mem_cons.mpr ⟨ct_X11_layLine_0, List.forall_mem_cons.mpr ⟨ct_X11_layLine_1, fun _ h => absurd h List.not_mem_nil⟩⟩)
set_option maxRecDepth 100000 in
theorem ct_X11_tear_0 : mc_X11_tear_0.all (ax_chkE mt_prog RX11 "tear" cX11_tear) = true := by decide +kernel
set_option maxRecDepth 100000 in
theorem ch_X11_tear : ax_chkH (mt_X11_tear, 1553, 127) = true := by decide +kernel
theorem pk_X11_tear : ax_MOk mt_prog mt_X11_tear := ax_MOk_of ch_X11_tear (List.forall_mem_cons.mpr ⟨ct_X11_tear_0, fun _ h => absurd h List.not_mem_nil⟩)
set_option maxRecDepth 100000 in
theorem ct_X11_lineWorth_0 : mc_X11_lineWorth_0.all (ax_chkE mt_prog RX11 "lineWorth" cX11_lineWorth) = true := by decide +kernel
set_option maxRecDepth 100000 in
theorem ch_X11_lineWorth : ax_chkH (mt_X11_lineWorth, 1565, 127) = true := by decide +kernel
theorem pk_X11_lineWorth : ax_MOk mt_prog mt_X11_lineWorth := ax_MOk_of ch_X11_lineWorth (List.forall_mem_cons.mpr ⟨ct_X11_lineWorth_0, fun _ h => absurd h List.not_mem_nil⟩)
set_option maxRecDepth 100000 in
theorem ct_X11_ahead_0 : mc_X11_ahead_0.all (ax_chkE mt_prog RX11 "ahead" cX11_ahead) = true := by decide +kernel
set_option maxRecDepth 100000 in
theorem ch_X11_ahead : ax_chkH (mt_X11_ahead, 1569, 127) = true := by decide +kernel
theorem pk_X11_ahead : ax_MOk mt_prog mt_X11_ahead := ax_MOk_of ch_X11_ahead (List.forall_mem_cons.mpr ⟨ct_X11_ahead_0, fun _ h => absurd h List.not_mem_nil⟩)
set_option maxRecDepth 100000 in
theorem ct_X11_wrongAt_0 : mc_X11_wrongAt_0.all (ax_chkE mt_prog RX11 "wrongAt" cX11_wrongAt) = true := by decide +kernel
set_option maxRecDepth 100000 in
theorem ct_X11_wrongAt_1 : mc_X11_wrongAt_1.all (ax_chkE mt_prog RX11 "wrongAt" cX11_wrongAt) = true := by decide +kernel
set_option maxRecDepth 100000 in
theorem ch_X11_wrongAt : ax_chkH (mt_X11_wrongAt, 1561, 127) = true := by decide +kernel
theorem pk_X11_wrongAt : ax_MOk mt_prog mt_X11_wrongAt := ax_MOk_of ch_X11_wrongAt (List.forall_mem_cons.mpr ⟨ct_X11_wrongAt_0, List.forall_mem_cons.mpr ⟨ct_X11_wrongAt_1, fun _ h => absurd h List.not_mem_nil⟩⟩)
set_option maxRecDepth 100000 in
theorem ct_X11_wrong_0 : mc_X11_wrong_0.all (ax_chkE mt_prog RX11 "wrong" cX11_wrong) = true := by decide +kernel
set_option maxRecDepth 100000 in
theorem ch_X11_wrong : ax_chkH (mt_X11_wrong, 1557, 127) = true := by decide +kernel
theorem pk_X11_wrong : ax_MOk mt_prog mt_X11_wrong := ax_MOk_of ch_X11_wrong (List.forall_mem_cons.mpr ⟨ct_X11_wrong_0, fun _ h => absurd h List.not_mem_nil⟩)
set_option maxRecDepth 100000 in
theorem ct_X11_mended_0 : mc_X11_mended_0.all (ax_chkE mt_prog RX11 "mended" cX11_mended) = true := by decide +kernel
set_option maxRecDepth 100000 in
theorem ct_X11_mended_1 : mc_X11_mended_1.all (ax_chkE mt_prog RX11 "mended" cX11_mended) = true := by decide +kernel
set_option maxRecDepth 100000 in
theorem ch_X11_mended : ax_chkH (mt_X11_mended, 1573, 127) = true := by decide +kernel
theorem pk_X11_mended : ax_MOk mt_prog mt_X11_mended := ax_MOk_of ch_X11_mended (List.forall_mem_cons.mpr ⟨ct_X11_mended_0, List.forall_mem_cons.mpr ⟨ct_X11_mended_1, fun _ h => absurd h List.not_mem_nil⟩⟩)
set_option maxRecDepth 100000 in
theorem ct_X11_putRight_0 : mc_X11_putRight_0.all (ax_chkE mt_prog RX11 "putRight" cX11_putRight) = true := by decide +kernel
set_option maxRecDepth 100000 in
theorem ct_X11_putRight_1 : mc_X11_putRight_1.all (ax_chkE mt_prog RX11 "putRight" cX11_putRight) = true := by decide +kernel
set_option maxRecDepth 100000 in
theorem ct_X11_putRight_2 : mc_X11_putRight_2.all (ax_chkE mt_prog RX11 "putRight" cX11_putRight) = true := by decide +kernel
set_option maxRecDepth 100000 in
theorem ch_X11_putRight : ax_chkH (mt_X11_putRight, 1589, 127) = true := by decide +kernel
theorem pk_X11_putRight : ax_MOk mt_prog mt_X11_putRight := ax_MOk_of ch_X11_putRight (List.forall_mem_cons.mpr ⟨ct_X11_putRight_0, List.forall_mem_cons.mpr ⟨ct_X11_putRight_1, List.forall_mem_cons.mpr ⟨ct_X11_putRight_2, fun _ h => absurd h List.not_mem_nil⟩⟩⟩)
