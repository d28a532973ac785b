/-! ===== the tables are checked ===== -/
set_option maxRecDepth 100000 in
theorem ct_X10_sweep_0 : mc_X10_sweep_0.all (ax_chkE mt_prog RX10 "sweep" cX10_sweep) = true := by decide +kernel
set_option maxRecDepth 100000 in
theorem ch_X10_sweep : ax_chkH (mt_X10_sweep, 892, 116) = true := by decide +kernel
theorem pk_X10_sweep : ax_MOk mt_prog mt_X10_sweep := ax_MOk_of ch_X10_sweep (List.forall_mem_cons.mpr ⟨ct_X10_sweep_0, fun _ h => absurd h List.not_mem_nil⟩)
set_option maxRecDepth 100000 in
theorem ct_X10_times_0 : mc_X10_times_0.all (ax_chkE mt_prog RX10 "times" cX10_times) = true := by decide +kernel
set_option maxRecDepth 100000 in
theorem ct_X10_times_1 : mc_X10_times_1.all (ax_chkE mt_prog RX10 "times" cX10_times) = true := by decide +kernel
set_option maxRecDepth 100000 in
theorem ct_X10_times_2 : mc_X10_times_2.all (ax_chkE mt_prog RX10 "times" cX10_times) = true := by decide +kernel
set_option maxRecDepth 100000 in
theorem ct_X10_times_3 : mc_X10_times_3.all (ax_chkE mt_prog RX10 "times" cX10_times) = true := by decide +kernel
set_option maxRecDepth 100000 in
theorem ch_X10_times : ax_chkH (mt_X10_times, 900, 116) = true := by decide +kernel
theorem pk_X10_times : ax_MOk mt_prog mt_X10_times := ax_MOk_of ch_X10_times (List.forall_mem_cons.mpr ⟨ct_X10_times_0, List.forall_mem_cons.mpr ⟨ct_X10_times_1, List.forall_mem_cons.mpr ⟨ct_X10_times_2, List.forall_mem_cons.mpr ⟨ct_X10_times_3, fun _ h => absurd h List.not_mem_nil⟩⟩⟩⟩)
set_option maxRecDepth 100000 in
theorem ct_X10_parts_0 : mc_X10_parts_0.all (ax_chkE mt_prog RX10 "parts" cX10_parts) = true := by decide +kernel
set_option maxRecDepth 100000 in
theorem ct_X10_parts_1 : mc_X10_parts_1.all (ax_chkE mt_prog RX10 "parts" cX10_parts) = true := by decide +kernel
set_option maxRecDepth 100000 in
theorem ct_X10_parts_2 : mc_X10_parts_2.all (ax_chkE mt_prog RX10 "parts" cX10_parts) = true := by decide +kernel
set_option maxRecDepth 100000 in
theorem ch_X10_parts : ax_chkH (mt_X10_parts, 910, 116) = true := by decide +kernel
theorem pk_X10_parts : ax_MOk mt_prog mt_X10_parts := ax_MOk_of ch_X10_parts (List.forall_mem_cons.mpr ⟨ct_X10_parts_0, List.forall_mem_cons.mpr ⟨ct_X10_parts_1, List.forall_mem_cons.mpr ⟨ct_X10_parts_2, fun _ h => absurd h List.not_mem_nil⟩⟩⟩)
set_option maxRecDepth 100000 in
theorem ct_X10_stone_0 : mc_X10_stone_0.all (ax_chkE mt_prog RX10 "stone" cX10_stone) = true := by decide +kernel
set_option maxRecDepth 100000 in
theorem ct_X10_stone_1 : mc_X10_stone_1.all (ax_chkE mt_prog RX10 "stone" cX10_stone) = true := by decide +kernel
set_option maxRecDepth 100000 in
theorem ch_X10_stone : ax_chkH (mt_X10_stone, 920, 116) = true := by decide +kernel
theorem pk_X10_stone : ax_MOk mt_prog mt_X10_stone := ax_MOk_of ch_X10_stone (List.forall_mem_cons.mpr ⟨ct_X10_stone_0, List.forall_mem_cons.mpr ⟨ct_X10_stone_1, fun _ h => absurd h List.not_mem_nil⟩⟩)
set_option maxRecDepth 100000 in
theorem ct_X10_could_0 : mc_X10_could_0.all (ax_chkE mt_prog RX10 "could" cX10_could) = true := by decide +kernel
set_option maxRecDepth 100000 in
theorem ch_X10_could : ax_chkH (mt_X10_could, 935, 116) = true := by decide +kernel
theorem pk_X10_could : ax_MOk mt_prog mt_X10_could := ax_MOk_of ch_X10_could (List.forall_mem_cons.mpr ⟨ct_X10_could_0, fun _ h => absurd h List.not_mem_nil⟩)
set_option maxRecDepth 100000 in
theorem ct_X10_says_0 : mc_X10_says_0.all (ax_chkE mt_prog RX10 "says" cX10_says) = true := by decide +kernel
set_option maxRecDepth 100000 in
theorem ct_X10_says_1 : mc_X10_says_1.all (ax_chkE mt_prog RX10 "says" cX10_says) = true := by decide +kernel
set_option maxRecDepth 100000 in
theorem ch_X10_says : ax_chkH (mt_X10_says, 969, 116) = true := by decide +kernel
theorem pk_X10_says : ax_MOk mt_prog mt_X10_says := ax_MOk_of ch_X10_says (List.forall_mem_cons.mpr ⟨ct_X10_says_0, List.forall_mem_cons.mpr ⟨ct_X10_says_1, fun _ h => absurd h List.not_mem_nil⟩⟩)
set_option maxRecDepth 100000 in
theorem ct_X10_sure_0 : mc_X10_sure_0.all (ax_chkE mt_prog RX10 "sure" cX10_sure) = true := by decide +kernel
set_option maxRecDepth 100000 in
theorem ct_X10_sure_1 : mc_X10_sure_1.all (ax_chkE mt_prog RX10 "sure" cX10_sure) = true := by decide +kernel
set_option maxRecDepth 100000 in
theorem ch_X10_sure : ax_chkH (mt_X10_sure, 973, 116) = true := by decide +kernel
theorem pk_X10_sure : ax_MOk mt_prog mt_X10_sure := ax_MOk_of ch_X10_sure (List.forall_mem_cons.mpr ⟨ct_X10_sure_0, List.forall_mem_cons.mpr ⟨ct_X10_sure_1, fun _ h => absurd h List.not_mem_nil⟩⟩)
set_option maxRecDepth 100000 in
theorem ct_X10_note_0 : mc_X10_note_0.all (ax_chkE mt_prog RX10 "note" cX10_note) = true := by decide +kernel
set_option maxRecDepth 100000 in
theorem ct_X10_note_1 : mc_X10_note_1.all (ax_chkE mt_prog RX10 "note" cX10_note) = true := by decide +kernel
set_option maxRecDepth 100000 in
theorem ct_X10_note_2 : mc_X10_note_2.all (ax_chkE mt_prog RX10 "note" cX10_note) = true := by decide +kernel
set_option maxRecDepth 100000 in
theorem ch_X10_note : ax_chkH (mt_X10_note, 977, 116) = true := by decide +kernel
theorem pk_X10_note : ax_MOk mt_prog mt_X10_note := ax_MOk_of ch_X10_note (List.forall_mem_cons.mpr ⟨ct_X10_note_0, List.forall_mem_cons.mpr ⟨ct_X10_note_1, List.forall_mem_cons.mpr ⟨ct_X10_note_2, fun _ h => absurd h List.not_mem_nil⟩⟩⟩)
set_option maxRecDepth 100000 in
theorem ct_X10_habit_0 : mc_X10_habit_0.all (ax_chkE mt_prog RX10 "habit" cX10_habit) = true := by decide +kernel
set_option maxRecDepth 100000 in
theorem ch_X10_habit : ax_chkH (mt_X10_habit, 993, 116) = true := by decide +kernel
theorem pk_X10_habit : ax_MOk mt_prog mt_X10_habit := ax_MOk_of ch_X10_habit (List.forall_mem_cons.mpr ⟨ct_X10_habit_0, fun _ h => absurd h List.not_mem_nil⟩)
set_option maxRecDepth 100000 in
theorem ct_X10_hands_0 : mc_X10_hands_0.all (ax_chkE mt_prog RX10 "hands" cX10_hands) = true := by decide +kernel
set_option maxRecDepth 100000 in
theorem ct_X10_hands_1 : mc_X10_hands_1.all (ax_chkE mt_prog RX10 "hands" cX10_hands) = true := by decide +kernel
set_option maxRecDepth 100000 in
theorem ch_X10_hands : ax_chkH (mt_X10_hands, 997, 116) = true := by decide +kernel
theorem pk_X10_hands : ax_MOk mt_prog mt_X10_hands := ax_MOk_of ch_X10_hands (List.forall_mem_cons.mpr ⟨ct_X10_hands_0, List.forall_mem_cons.mpr ⟨ct_X10_hands_1, fun _ h => absurd h List.not_mem_nil⟩⟩)
set_option maxRecDepth 100000 in
theorem ct_X10_line_0 : mc_X10_line_0.all (ax_chkE mt_prog RX10 "line" cX10_line) = true := by decide +kernel
set_option maxRecDepth 100000 in
theorem ct_X10_line_1 : mc_X10_line_1.all (ax_chkE mt_prog RX10 "line" cX10_line) = true := by decide +kernel
set_option maxRecDepth 100000 in
theorem ch_X10_line : ax_chkH (mt_X10_line, 1001, 116) = true := by decide +kernel
theorem pk_X10_line : ax_MOk mt_prog mt_X10_line := ax_MOk_of ch_X10_line (List.forall_mem_cons.mpr ⟨ct_X10_line_0, List.forall_mem_cons.mpr ⟨ct_X10_line_1, fun _ h => absurd h List.not_mem_nil⟩⟩)
set_option maxRecDepth 100000 in
theorem ct_X10_tear_0 : mc_X10_tear_0.all (ax_chkE mt_prog RX10 "tear" cX10_tear) = true := by decide +kernel
set_option maxRecDepth 100000 in
theorem ch_X10_tear : ax_chkH (mt_X10_tear, 1011, 116) = true := by decide +kernel
theorem pk_X10_tear : ax_MOk mt_prog mt_X10_tear := ax_MOk_of ch_X10_tear (List.forall_mem_cons.mpr ⟨ct_X10_tear_0, fun _ h => absurd h List.not_mem_nil⟩)
set_option maxRecDepth 100000 in
theorem ct_X10_wrong_0 : mc_X10_wrong_0.all (ax_chkE mt_prog RX10 "wrong" cX10_wrong) = true := by decide +kernel
set_option maxRecDepth 100000 in
theorem ch_X10_wrong : ax_chkH (mt_X10_wrong, 1019, 116) = true := by decide +kernel
theorem pk_X10_wrong : ax_MOk mt_prog mt_X10_wrong := ax_MOk_of ch_X10_wrong (List.forall_mem_cons.mpr ⟨ct_X10_wrong_0, fun _ h => absurd h List.not_mem_nil⟩)
set_option maxRecDepth 100000 in
theorem ct_X10_mended_0 : mc_X10_mended_0.all (ax_chkE mt_prog RX10 "mended" cX10_mended) = true := by decide +kernel
set_option maxRecDepth 100000 in
theorem ch_X10_mended : ax_chkH (mt_X10_mended, 1031, 116) = true := by decide +kernel
theorem pk_X10_mended : ax_MOk mt_prog mt_X10_mended := ax_MOk_of ch_X10_mended (List.forall_mem_cons.mpr ⟨ct_X10_mended_0, fun _ h => absurd h List.not_mem_nil⟩)
set_option maxRecDepth 100000 in
theorem ct_X10_slip_0 : mc_X10_slip_0.all (ax_chkE mt_prog RX10 "slip" cX10_slip) = true := by decide +kernel
set_option maxRecDepth 100000 in
theorem ct_X10_slip_1 : mc_X10_slip_1.all (ax_chkE mt_prog RX10 "slip" cX10_slip) = true := by decide +kernel
set_option maxRecDepth 100000 in
theorem ct_X10_slip_2 : mc_X10_slip_2.all (ax_chkE mt_prog RX10 "slip" cX10_slip) = true := by decide +kernel
set_option maxRecDepth 100000 in
theorem ch_X10_slip : ax_chkH (mt_X10_slip, 1040, 116) = true := by decide +kernel
theorem pk_X10_slip : ax_MOk mt_prog mt_X10_slip := ax_MOk_of ch_X10_slip (List.forall_mem_cons.mpr ⟨ct_X10_slip_0, List.forall_mem_cons.mpr ⟨ct_X10_slip_1, List.forall_mem_cons.mpr ⟨ct_X10_slip_2, fun _ h => absurd h List.not_mem_nil⟩⟩⟩)
set_option maxRecDepth 100000 in
theorem ct_X10_count_0 : mc_X10_count_0.all (ax_chkE mt_prog RX10 "count" cX10_count) = true := by decide +kernel
set_option maxRecDepth 100000 in
theorem ct_X10_count_1 : mc_X10_count_1.all (ax_chkE mt_prog RX10 "count" cX10_count) = true := by decide +kernel
set_option maxRecDepth 100000 in
theorem ct_X10_count_2 : mc_X10_count_2.all (ax_chkE mt_prog RX10 "count" cX10_count) = true := by decide +kernel
set_option maxRecDepth 100000 in
theorem ch_X10_count : ax_chkH (mt_X10_count, 1072, 116) = true := by decide +kernel
theorem pk_X10_count : ax_MOk mt_prog mt_X10_count := ax_MOk_of ch_X10_count (List.forall_mem_cons.mpr ⟨ct_X10_count_0, List.forall_mem_cons.mpr ⟨ct_X10_count_1, List.forall_mem_cons.mpr ⟨ct_X10_count_2, fun _ h => absurd h List.not_mem_nil⟩⟩⟩)
set_option maxRecDepth 100000 in
theorem ct_X10_digest_0 : mc_X10_digest_0.all (ax_chkE mt_prog RX10 "digest" cX10_digest) = true := by decide +kernel
set_option maxRecDepth 100000 in
theorem ct_X10_digest_1 : mc_X10_digest_1.all (ax_chkE mt_prog RX10 "digest" cX10_digest) = true := by decide +kernel
set_option maxRecDepth 100000 in
theorem ct_X10_digest_2 : mc_X10_digest_2.all (ax_chkE mt_prog RX10 "digest" cX10_digest) = true := by decide +kernel
set_option maxRecDepth 100000 in
theorem ct_X10_digest_3 : mc_X10_digest_3.all (ax_chkE mt_prog RX10 "digest" cX10_digest) = true := by decide +kernel
set_option maxRecDepth 100000 in
theorem ct_X10_digest_4 : mc_X10_digest_4.all (ax_chkE mt_prog RX10 "digest" cX10_digest) = true := by decide +kernel
set_option maxRecDepth 100000 in
theorem ct_X10_digest_5 : mc_X10_digest_5.all (ax_chkE mt_prog RX10 "digest" cX10_digest) = true := by decide +kernel
set_option maxRecDepth 100000 in
theorem ch_X10_digest : ax_chkH (mt_X10_digest, 1076, 116) = true := by decide +kernel
theorem pk_X10_digest : ax_MOk mt_prog mt_X10_digest := ax_MOk_of ch_X10_digest (List.forall_mem_cons.mpr ⟨ct_X10_digest_0, List.forall_mem_cons.mpr ⟨ct_X10_digest_1, List.forall_mem_cons.mpr ⟨ct_X10_digest_2, List.forall_mem_cons.mpr ⟨ct_X10_digest_3, List.forall_mem_cons.mpr ⟨ct_X10_digest_4, List.forall_mem_cons.mpr ⟨ct_X10_digest_5, fun _ h => absurd h List.not_mem_nil⟩⟩⟩⟩⟩⟩)
