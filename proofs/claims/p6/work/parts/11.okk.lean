/-! ===== the tables are checked ===== -/
set_option maxRecDepth 100000 in
theorem ct_X11_blank_0 : mc_X11_blank_0.all (ax_chkE mt_prog RX11 "blank" cX11_blank) = true := by decide +kernel
set_option maxRecDepth 100000 in
theorem ch_X11_blank : ax_chkH (mt_X11_blank, 1277, 127) = true := by decide +kernel
theorem pk_X11_blank : ax_MOk mt_prog mt_X11_blank := ax_MOk_of ch_X11_blank (List.forall_mem_cons.mpr ⟨ct_X11_blank_0, fun _ h => absurd h List.not_mem_nil⟩)
set_option maxRecDepth 100000 in
theorem ct_X11_signOf_0 : mc_X11_signOf_0.all (ax_chkE mt_prog RX11 "signOf" cX11_signOf) = true := by decide +kernel
set_option maxRecDepth 100000 in
theorem ch_X11_signOf : ax_chkH (mt_X11_signOf, 1289, 127) = true := by decide +kernel
theorem pk_X11_signOf : ax_MOk mt_prog mt_X11_signOf := ax_MOk_of ch_X11_signOf (List.forall_mem_cons.mpr ⟨ct_X11_signOf_0, fun _ h => absurd h List.not_mem_nil⟩)
set_option maxRecDepth 100000 in
theorem ct_X11_readCustom_0 : mc_X11_readCustom_0.all (ax_chkE mt_prog RX11 "readCustom" cX11_readCustom) = true := by decide +kernel
set_option maxRecDepth 100000 in
theorem ct_X11_readCustom_1 : mc_X11_readCustom_1.all (ax_chkE mt_prog RX11 "readCustom" cX11_readCustom) = true := by decide +kernel
set_option maxRecDepth 100000 in
theorem ct_X11_readCustom_2 : mc_X11_readCustom_2.all (ax_chkE mt_prog RX11 "readCustom" cX11_readCustom) = true := by decide +kernel
set_option maxRecDepth 100000 in
theorem ct_X11_readCustom_3 : mc_X11_readCustom_3.all (ax_chkE mt_prog RX11 "readCustom" cX11_readCustom) = true := by decide +kernel
set_option maxRecDepth 100000 in
theorem ct_X11_readCustom_4 : mc_X11_readCustom_4.all (ax_chkE mt_prog RX11 "readCustom" cX11_readCustom) = true := by decide +kernel
set_option maxRecDepth 100000 in
theorem ct_X11_readCustom_5 : mc_X11_readCustom_5.all (ax_chkE mt_prog RX11 "readCustom" cX11_readCustom) = true := by decide +kernel
set_option maxRecDepth 100000 in
theorem ct_X11_readCustom_6 : mc_X11_readCustom_6.all (ax_chkE mt_prog RX11 "readCustom" cX11_readCustom) = true := by decide +kernel
set_option maxRecDepth 100000 in
theorem ct_X11_readCustom_7 : mc_X11_readCustom_7.all (ax_chkE mt_prog RX11 "readCustom" cX11_readCustom) = true := by decide +kernel
set_option maxRecDepth 100000 in
theorem ct_X11_readCustom_8 : mc_X11_readCustom_8.all (ax_chkE mt_prog RX11 "readCustom" cX11_readCustom) = true := by decide +kernel
set_option maxRecDepth 100000 in
theorem ct_X11_readCustom_9 : mc_X11_readCustom_9.all (ax_chkE mt_prog RX11 "readCustom" cX11_readCustom) = true := by decide +kernel
set_option maxRecDepth 100000 in
theorem ct_X11_readCustom_10 : mc_X11_readCustom_10.all (ax_chkE mt_prog RX11 "readCustom" cX11_readCustom) = true := by decide +kernel
set_option maxRecDepth 100000 in
theorem ct_X11_readCustom_11 : mc_X11_readCustom_11.all (ax_chkE mt_prog RX11 "readCustom" cX11_readCustom) = true := by decide +kernel
set_option maxRecDepth 100000 in
theorem ct_X11_readCustom_12 : mc_X11_readCustom_12.all (ax_chkE mt_prog RX11 "readCustom" cX11_readCustom) = true := by decide +kernel
set_option maxRecDepth 100000 in
theorem ch_X11_readCustom : ax_chkH (mt_X11_readCustom, 1285, 127) = true := by decide +kernel
theorem pk_X11_readCustom : ax_MOk mt_prog mt_X11_readCustom := ax_MOk_of ch_X11_readCustom (List.forall_mem_cons.mpr ⟨ct_X11_readCustom_0, List.forall_mem_cons.mpr ⟨ct_X11_readCustom_1, List.forall_mem_cons.mpr ⟨ct_X11_readCustom_2, List.forall_mem_cons.mpr ⟨ct_X11_readCustom_3, List.forall_mem_cons.mpr ⟨ct_X11_readCustom_4, List.forall_mem_cons.mpr ⟨ct_X11_readCustom_5, List.forall_mem_cons.mpr ⟨ct_X11_readCustom_6, List.forall_mem_cons.mpr ⟨ct_X11_readCustom_7, List.forall_mem_cons.mpr ⟨ct_X11_readCustom_8, List.forall_mem_cons.mpr ⟨ct_X11_readCustom_9, List.forall_mem_cons.mpr ⟨ct_X11_readCustom_10, List.forall_mem_cons.mpr ⟨ct_X11_readCustom_11, List.forall_mem_cons.mpr ⟨ct_X11_readCustom_12, fun _ h => absurd h List.not_mem_nil⟩⟩⟩⟩⟩⟩⟩⟩⟩⟩⟩⟩⟩)
set_option maxRecDepth 100000 in
theorem ct_X11_isMore_0 : mc_X11_isMore_0.all (ax_chkE mt_prog RX11 "isMore" cX11_isMore) = true := by decide +kernel
set_option maxRecDepth 100000 in
theorem ch_X11_isMore : ax_chkH (mt_X11_isMore, 1296, 127) = true := by decide +kernel
theorem pk_X11_isMore : ax_MOk mt_prog mt_X11_isMore := ax_MOk_of ch_X11_isMore (List.forall_mem_cons.mpr ⟨ct_X11_isMore_0, fun _ h => absurd h List.not_mem_nil⟩)
set_option maxRecDepth 100000 in
theorem ct_X11_good_0 : mc_X11_good_0.all (ax_chkE mt_prog RX11 "good" cX11_good) = true := by decide +kernel
set_option maxRecDepth 100000 in
theorem ch_X11_good : ax_chkH (mt_X11_good, 1281, 127) = true := by decide +kernel
theorem pk_X11_good : ax_MOk mt_prog mt_X11_good := ax_MOk_of ch_X11_good (List.forall_mem_cons.mpr ⟨ct_X11_good_0, fun _ h => absurd h List.not_mem_nil⟩)
set_option maxRecDepth 100000 in
theorem ct_X11_custom_0 : mc_X11_custom_0.all (ax_chkE mt_prog RX11 "custom" cX11_custom) = true := by decide +kernel
set_option maxRecDepth 100000 in
theorem ct_X11_custom_1 : mc_X11_custom_1.all (ax_chkE mt_prog RX11 "custom" cX11_custom) = true := by decide +kernel
set_option maxRecDepth 100000 in
theorem ch_X11_custom : ax_chkH (mt_X11_custom, 1300, 127) = true := by decide +kernel
theorem pk_X11_custom : ax_MOk mt_prog mt_X11_custom := ax_MOk_of ch_X11_custom (List.forall_mem_cons.mpr ⟨ct_X11_custom_0, List.forall_mem_cons.mpr ⟨ct_X11_custom_1, fun _ h => absurd h List.not_mem_nil⟩⟩)
set_option maxRecDepth 100000 in
theorem ct_X11_isCustom_0 : mc_X11_isCustom_0.all (ax_chkE mt_prog RX11 "isCustom" cX11_isCustom) = true := by decide +kernel
set_option maxRecDepth 100000 in
theorem ch_X11_isCustom : ax_chkH (mt_X11_isCustom, 1308, 127) = true := by decide +kernel
theorem pk_X11_isCustom : ax_MOk mt_prog mt_X11_isCustom := ax_MOk_of ch_X11_isCustom (List.forall_mem_cons.mpr ⟨ct_X11_isCustom_0, fun _ h => absurd h List.not_mem_nil⟩)
set_option maxRecDepth 100000 in
theorem ct_X11_asks_0 : mc_X11_asks_0.all (ax_chkE mt_prog RX11 "asks" cX11_asks) = true := by decide +kernel
set_option maxRecDepth 100000 in
theorem ct_X11_asks_1 : mc_X11_asks_1.all (ax_chkE mt_prog RX11 "asks" cX11_asks) = true := by decide +kernel
set_option maxRecDepth 100000 in
theorem ct_X11_asks_2 : mc_X11_asks_2.all (ax_chkE mt_prog RX11 "asks" cX11_asks) = true := by decide +kernel
set_option maxRecDepth 100000 in
theorem ch_X11_asks : ax_chkH (mt_X11_asks, 1304, 127) = true := by decide +kernel
theorem pk_X11_asks : ax_MOk mt_prog mt_X11_asks := ax_MOk_of ch_X11_asks (List.forall_mem_cons.mpr ⟨ct_X11_asks_0, List.forall_mem_cons.mpr ⟨ct_X11_asks_1, List.forall_mem_cons.mpr ⟨ct_X11_asks_2, fun _ h => absurd h List.not_mem_nil⟩⟩⟩)
set_option maxRecDepth 100000 in
theorem ct_X11_isRow_0 : mc_X11_isRow_0.all (ax_chkE mt_prog RX11 "isRow" cX11_isRow) = true := by decide +kernel
set_option maxRecDepth 100000 in
theorem ch_X11_isRow : ax_chkH (mt_X11_isRow, 1315, 127) = true := by decide +kernel
theorem pk_X11_isRow : ax_MOk mt_prog mt_X11_isRow := ax_MOk_of ch_X11_isRow (List.forall_mem_cons.mpr ⟨ct_X11_isRow_0, fun _ h => absurd h List.not_mem_nil⟩)
set_option maxRecDepth 100000 in
theorem ct_X11_row_0 : mc_X11_row_0.all (ax_chkE mt_prog RX11 "row" cX11_row) = true := by decide +kernel
set_option maxRecDepth 100000 in
theorem ct_X11_row_1 : mc_X11_row_1.all (ax_chkE mt_prog RX11 "row" cX11_row) = true := by decide +kernel
set_option maxRecDepth 100000 in
theorem ct_X11_row_2 : mc_X11_row_2.all (ax_chkE mt_prog RX11 "row" cX11_row) = true := by decide +kernel
set_option maxRecDepth 100000 in
theorem ct_X11_row_3 : mc_X11_row_3.all (ax_chkE mt_prog RX11 "row" cX11_row) = true := by decide +kernel
set_option maxRecDepth 100000 in
theorem ch_X11_row : ax_chkH (mt_X11_row, 1312, 127) = true := by decide +kernel
theorem pk_X11_row : ax_MOk mt_prog mt_X11_row := ax_MOk_of ch_X11_row (List.forall_mem_cons.mpr ⟨ct_X11_row_0, List.forall_mem_cons.mpr ⟨ct_X11_row_1, List.forall_mem_cons.mpr ⟨ct_X11_row_2, List.forall_mem_cons.mpr ⟨ct_X11_row_3, fun _ h => absurd h List.not_mem_nil⟩⟩⟩⟩)
set_option maxRecDepth 100000 in
theorem ct_X11_sign_0 : mc_X11_sign_0.all (ax_chkE mt_prog RX11 "sign" cX11_sign) = true := by decide +kernel
set_option maxRecDepth 100000 in
theorem ct_X11_sign_1 : mc_X11_sign_1.all (ax_chkE mt_prog RX11 "sign" cX11_sign) = true := by decide +kernel
set_option maxRecDepth 100000 in
theorem ch_X11_sign : ax_chkH (mt_X11_sign, 1319, 127) = true := by decide +kernel
theorem pk_X11_sign : ax_MOk mt_prog mt_X11_sign := ax_MOk_of ch_X11_sign (List.forall_mem_cons.mpr ⟨ct_X11_sign_0, List.forall_mem_cons.mpr ⟨ct_X11_sign_1, fun _ h => absurd h List.not_mem_nil⟩⟩)
