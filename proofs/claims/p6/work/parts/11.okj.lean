/-! ===== the tables are checked ===== -/
set_option maxRecDepth 100000 in
theorem ct_X10_mix_0 : mc_X10_mix_0.all (ax_chkE mt_prog RX10 "mix" cX10_mix) = true := by decide +kernel
set_option maxRecDepth 100000 in
theorem ch_X10_mix : ax_chkH (mt_X10_mix, 1084, 116) = true := by decide +kernel
theorem pk_X10_mix : ax_MOk mt_prog mt_X10_mix := ax_MOk_of ch_X10_mix (List.forall_mem_cons.mpr ⟨ct_X10_mix_0, fun _ h => absurd h List.not_mem_nil⟩)
set_option maxRecDepth 100000 in
theorem ct_X10_isRow_0 : mc_X10_isRow_0.all (ax_chkE mt_prog RX10 "isRow" cX10_isRow) = true := by decide +kernel
set_option maxRecDepth 100000 in
theorem ch_X10_isRow : ax_chkH (mt_X10_isRow, 663, 116) = true := by decide +kernel
theorem pk_X10_isRow : ax_MOk mt_prog mt_X10_isRow := ax_MOk_of ch_X10_isRow (List.forall_mem_cons.mpr ⟨ct_X10_isRow_0, fun _ h => absurd h List.not_mem_nil⟩)
set_option maxRecDepth 100000 in
theorem ct_X10_isMason_0 : mc_X10_isMason_0.all (ax_chkE mt_prog RX10 "isMason" cX10_isMason) = true := by decide +kernel
set_option maxRecDepth 100000 in
theorem ch_X10_isMason : ax_chkH (mt_X10_isMason, 980, 116) = true := by decide +kernel
theorem pk_X10_isMason : ax_MOk mt_prog mt_X10_isMason := ax_MOk_of ch_X10_isMason (List.forall_mem_cons.mpr ⟨ct_X10_isMason_0, fun _ h => absurd h List.not_mem_nil⟩)
set_option maxRecDepth 100000 in
theorem ct_X10_isNumber_0 : mc_X10_isNumber_0.all (ax_chkE mt_prog RX10 "isNumber" cX10_isNumber) = true := by decide +kernel
set_option maxRecDepth 100000 in
theorem ch_X10_isNumber : ax_chkH (mt_X10_isNumber, 714, 116) = true := by decide +kernel
theorem pk_X10_isNumber : ax_MOk mt_prog mt_X10_isNumber := ax_MOk_of ch_X10_isNumber (List.forall_mem_cons.mpr ⟨ct_X10_isNumber_0, fun _ h => absurd h List.not_mem_nil⟩)
set_option maxRecDepth 100000 in
theorem ct_X10_isCustom_0 : mc_X10_isCustom_0.all (ax_chkE mt_prog RX10 "isCustom" cX10_isCustom) = true := by decide +kernel
set_option maxRecDepth 100000 in
theorem ch_X10_isCustom : ax_chkH (mt_X10_isCustom, 656, 116) = true := by decide +kernel
theorem pk_X10_isCustom : ax_MOk mt_prog mt_X10_isCustom := ax_MOk_of ch_X10_isCustom (List.forall_mem_cons.mpr ⟨ct_X10_isCustom_0, fun _ h => absurd h List.not_mem_nil⟩)
set_option maxRecDepth 100000 in
theorem ct_X10_customsAllowing_0 : mc_X10_customsAllowing_0.all (ax_chkE mt_prog RX10 "customsAllowing" cX10_customsAllowing) = true := by decide +kernel
set_option maxRecDepth 100000 in
theorem ct_X10_customsAllowing_1 : mc_X10_customsAllowing_1.all (ax_chkE mt_prog RX10 "customsAllowing" cX10_customsAllowing) = true := by decide +kernel
set_option maxRecDepth 100000 in
theorem ch_X10_customsAllowing : ax_chkH (mt_X10_customsAllowing, 984, 116) = true := by decide +kernel
theorem pk_X10_customsAllowing : ax_MOk mt_prog mt_X10_customsAllowing := ax_MOk_of ch_X10_customsAllowing (List.forall_mem_cons.mpr ⟨ct_X10_customsAllowing_0, List.forall_mem_cons.mpr ⟨ct_X10_customsAllowing_1, fun _ h => absurd h List.not_mem_nil⟩⟩)
set_option maxRecDepth 100000 in
theorem ct_X10_readStone_0 : mc_X10_readStone_0.all (ax_chkE mt_prog RX10 "readStone" cX10_readStone) = true := by decide +kernel
set_option maxRecDepth 100000 in
theorem ct_X10_readStone_1 : mc_X10_readStone_1.all (ax_chkE mt_prog RX10 "readStone" cX10_readStone) = true := by decide +kernel
set_option maxRecDepth 100000 in
theorem ch_X10_readStone : ax_chkH (mt_X10_readStone, 939, 116) = true := by decide +kernel
theorem pk_X10_readStone : ax_MOk mt_prog mt_X10_readStone := ax_MOk_of ch_X10_readStone (List.forall_mem_cons.mpr ⟨ct_X10_readStone_0, List.forall_mem_cons.mpr ⟨ct_X10_readStone_1, fun _ h => absurd h List.not_mem_nil⟩⟩)
set_option maxRecDepth 100000 in
theorem ct_X10_halvings_0 : mc_X10_halvings_0.all (ax_chkE mt_prog RX10 "halvings" cX10_halvings) = true := by decide +kernel
set_option maxRecDepth 100000 in
theorem ch_X10_halvings : ax_chkH (mt_X10_halvings, 906, 116) = true := by decide +kernel
theorem pk_X10_halvings : ax_MOk mt_prog mt_X10_halvings := ax_MOk_of ch_X10_halvings (List.forall_mem_cons.mpr ⟨ct_X10_halvings_0, fun _ h => absurd h List.not_mem_nil⟩)
set_option maxRecDepth 100000 in
theorem ct_X10_product_0 : mc_X10_product_0.all (ax_chkE mt_prog RX10 "product" cX10_product) = true := by decide +kernel
set_option maxRecDepth 100000 in
theorem ct_X10_product_1 : mc_X10_product_1.all (ax_chkE mt_prog RX10 "product" cX10_product) = true := by decide +kernel
set_option maxRecDepth 100000 in
theorem ch_X10_product : ax_chkH (mt_X10_product, 903, 116) = true := by decide +kernel
theorem pk_X10_product : ax_MOk mt_prog mt_X10_product := ax_MOk_of ch_X10_product (List.forall_mem_cons.mpr ⟨ct_X10_product_0, List.forall_mem_cons.mpr ⟨ct_X10_product_1, fun _ h => absurd h List.not_mem_nil⟩⟩)
set_option maxRecDepth 100000 in
theorem ct_X10_doublings_0 : mc_X10_doublings_0.all (ax_chkE mt_prog RX10 "doublings" cX10_doublings) = true := by decide +kernel
set_option maxRecDepth 100000 in
theorem ch_X10_doublings : ax_chkH (mt_X10_doublings, 916, 116) = true := by decide +kernel
theorem pk_X10_doublings : ax_MOk mt_prog mt_X10_doublings := ax_MOk_of ch_X10_doublings (List.forall_mem_cons.mpr ⟨ct_X10_doublings_0, fun _ h => absurd h List.not_mem_nil⟩)
set_option maxRecDepth 100000 in
theorem ct_X10_linesTaken_0 : mc_X10_linesTaken_0.all (ax_chkE mt_prog RX10 "linesTaken" cX10_linesTaken) = true := by decide +kernel
set_option maxRecDepth 100000 in
theorem ct_X10_linesTaken_1 : mc_X10_linesTaken_1.all (ax_chkE mt_prog RX10 "linesTaken" cX10_linesTaken) = true := by decide +kernel
set_option maxRecDepth 100000 in
theorem ch_X10_linesTaken : ax_chkH (mt_X10_linesTaken, 913, 116) = true := by decide +kernel
theorem pk_X10_linesTaken : ax_MOk mt_prog mt_X10_linesTaken := ax_MOk_of ch_X10_linesTaken (List.forall_mem_cons.mpr ⟨ct_X10_linesTaken_0, List.forall_mem_cons.mpr ⟨ct_X10_linesTaken_1, fun _ h => absurd h List.not_mem_nil⟩⟩)
set_option maxRecDepth 100000 in
theorem ct_X10_signOf_0 : mc_X10_signOf_0.all (ax_chkE mt_prog RX10 "signOf" cX10_signOf) = true := by decide +kernel
set_option maxRecDepth 100000 in
theorem ch_X10_signOf : ax_chkH (mt_X10_signOf, 498, 116) = true := by decide +kernel
theorem pk_X10_signOf : ax_MOk mt_prog mt_X10_signOf := ax_MOk_of ch_X10_signOf (List.forall_mem_cons.mpr ⟨ct_X10_signOf_0, fun _ h => absurd h List.not_mem_nil⟩)
set_option maxRecDepth 100000 in
theorem ct_X11_init_0 : mc_X11_init_0.all (ax_chkE mt_prog RX11 "<init>" cX11_init) = true := by decide +kernel
set_option maxRecDepth 100000 in
theorem ct_X11_init_1 : mc_X11_init_1.all (ax_chkE mt_prog RX11 "<init>" cX11_init) = true := by decide +kernel
set_option maxRecDepth 100000 in
theorem ct_X11_init_2 : mc_X11_init_2.all (ax_chkE mt_prog RX11 "<init>" cX11_init) = true := by decide +kernel
set_option maxRecDepth 100000 in
theorem ct_X11_init_3 : mc_X11_init_3.all (ax_chkE mt_prog RX11 "<init>" cX11_init) = true := by decide +kernel
set_option maxRecDepth 100000 in
theorem ct_X11_init_4 : mc_X11_init_4.all (ax_chkE mt_prog RX11 "<init>" cX11_init) = true := by decide +kernel
set_option maxRecDepth 100000 in
theorem ct_X11_init_5 : mc_X11_init_5.all (ax_chkE mt_prog RX11 "<init>" cX11_init) = true := by decide +kernel
set_option maxRecDepth 100000 in
theorem ct_X11_init_6 : mc_X11_init_6.all (ax_chkE mt_prog RX11 "<init>" cX11_init) = true := by decide +kernel
set_option maxRecDepth 100000 in
theorem ct_X11_init_7 : mc_X11_init_7.all (ax_chkE mt_prog RX11 "<init>" cX11_init) = true := by decide +kernel
set_option maxRecDepth 100000 in
theorem ct_X11_init_8 : mc_X11_init_8.all (ax_chkE mt_prog RX11 "<init>" cX11_init) = true := by decide +kernel
set_option maxRecDepth 100000 in
theorem ct_X11_init_9 : mc_X11_init_9.all (ax_chkE mt_prog RX11 "<init>" cX11_init) = true := by decide +kernel
set_option maxRecDepth 100000 in
theorem ct_X11_init_10 : mc_X11_init_10.all (ax_chkE mt_prog RX11 "<init>" cX11_init) = true := by decide +kernel
set_option maxRecDepth 100000 in
theorem ct_X11_init_11 : mc_X11_init_11.all (ax_chkE mt_prog RX11 "<init>" cX11_init) = true := by decide +kernel
set_option maxRecDepth 100000 in
theorem ct_X11_init_12 : mc_X11_init_12.all (ax_chkE mt_prog RX11 "<init>" cX11_init) = true := by decide +kernel
set_option maxRecDepth 100000 in
theorem ct_X11_init_13 : mc_X11_init_13.all (ax_chkE mt_prog RX11 "<init>" cX11_init) = true := by decide +kernel
set_option maxRecDepth 100000 in
theorem ch_X11_init : ax_chkH (mt_X11_init, 1116, 127) = true := by decide +kernel
theorem pk_X11_init : ax_MOk mt_prog mt_X11_init := ax_MOk_of ch_X11_init (List.forall_mem_cons.mpr ⟨ct_X11_init_0, List.forall_mem_cons.mpr ⟨ct_X11_init_1, List.forall_mem_cons.mpr ⟨ct_X11_init_2, List.forall_mem_cons.mpr ⟨ct_X11_init_3, List.forall_mem_cons.mpr ⟨ct_X11_init_4, List.forall_mem_cons.mpr ⟨ct_X11_init_5, List.forall_mem_cons.mpr ⟨ct_X11_init_6, List.forall_mem_cons.mpr ⟨ct_X11_init_7, List.forall_mem_cons.mpr ⟨ct_X11_init_8, List.forall_mem_cons.mpr ⟨ct_X11_init_9, List.forall_mem_cons.mpr ⟨ct_X11_init_10, List.forall_mem_cons.mpr ⟨ct_X11_init_11, List.forall_mem_cons.mpr ⟨ct_X11_init_12, List.forall_mem_cons.mpr ⟨ct_X11_init_13, fun _ h => absurd h List.not_mem_nil⟩⟩⟩⟩⟩⟩⟩⟩⟩⟩⟩⟩⟩⟩)
set_option maxRecDepth 100000 in
theorem ct_X11_in_0 : mc_X11_in_0.all (ax_chkE mt_prog RX11 "in" cX11_in) = true := by decide +kernel
set_option maxRecDepth 100000 in
theorem ch_X11_in : ax_chkH (mt_X11_in, 1292, 127) = true := by decide +kernel
theorem pk_X11_in : ax_MOk mt_prog mt_X11_in := ax_MOk_of ch_X11_in (List.forall_mem_cons.mpr ⟨ct_X11_in_0, fun _ h => absurd h List.not_mem_nil⟩)
set_option maxRecDepth 100000 in
theorem ct_X11_letters_0 : mc_X11_letters_0.all (ax_chkE mt_prog RX11 "letters" cX11_letters) = true := by decide +kernel
set_option maxRecDepth 100000 in
theorem ct_X11_letters_1 : mc_X11_letters_1.all (ax_chkE mt_prog RX11 "letters" cX11_letters) = true := by decide +kernel
set_option maxRecDepth 100000 in
theorem ct_X11_letters_2 : mc_X11_letters_2.all (ax_chkE mt_prog RX11 "letters" cX11_letters) = true := by decide +kernel
set_option maxRecDepth 100000 in
theorem ct_X11_letters_3 : mc_X11_letters_3.all (ax_chkE mt_prog RX11 "letters" cX11_letters) = true := by decide +kernel
set_option maxRecDepth 100000 in
theorem ct_X11_letters_4 : mc_X11_letters_4.all (ax_chkE mt_prog RX11 "letters" cX11_letters) = true := by decide +kernel
set_option maxRecDepth 100000 in
theorem ch_X11_letters : ax_chkH (mt_X11_letters, 1272, 127) = true := by decide +kernel
theorem pk_X11_letters : ax_MOk mt_prog mt_X11_letters := ax_MOk_of ch_X11_letters (List.forall_mem_cons.mpr ⟨ct_X11_letters_0, List.forall_mem_cons.mpr ⟨ct_X11_letters_1, List.forall_mem_cons.mpr ⟨ct_X11_letters_2, List.forall_mem_cons.mpr ⟨ct_X11_letters_3, List.forall_mem_cons.mpr ⟨ct_X11_letters_4, fun _ h => absurd h List.not_mem_nil⟩⟩⟩⟩⟩)
