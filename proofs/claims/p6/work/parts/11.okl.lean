/-! ===== the tables are checked ===== -/
set_option maxRecDepth 100000 in
theorem ct_X11_isTaken_0 : mc_X11_isTaken_0.all (ax_chkE mt_prog RX11 "isTaken" cX11_isTaken) = true := by decide +kernel
set_option maxRecDepth 100000 in
theorem ct_X11_isTaken_1 : mc_X11_isTaken_1.all (ax_chkE mt_prog RX11 "isTaken" cX11_isTaken) = true := by decide +kernel
set_option maxRecDepth 100000 in
theorem ch_X11_isTaken : ax_chkH (mt_X11_isTaken, 1330, 127) = true := by decide +kernel
theorem pk_X11_isTaken : ax_MOk mt_prog mt_X11_isTaken := ax_MOk_of ch_X11_isTaken (List.forall_mem_cons.mpr ⟨ct_X11_isTaken_0, List.forall_mem_cons.mpr ⟨ct_X11_isTaken_1, fun _ h => absurd h List.not_mem_nil⟩⟩)
set_option maxRecDepth 100000 in
theorem ct_X11_worthOf_0 : mc_X11_worthOf_0.all (ax_chkE mt_prog RX11 "worthOf" cX11_worthOf) = true := by decide +kernel
set_option maxRecDepth 100000 in
theorem ct_X11_worthOf_1 : mc_X11_worthOf_1.all (ax_chkE mt_prog RX11 "worthOf" cX11_worthOf) = true := by decide +kernel
set_option maxRecDepth 100000 in
theorem ch_X11_worthOf : ax_chkH (mt_X11_worthOf, 1327, 127) = true := by decide +kernel
theorem pk_X11_worthOf : ax_MOk mt_prog mt_X11_worthOf := ax_MOk_of ch_X11_worthOf (List.forall_mem_cons.mpr ⟨ct_X11_worthOf_0, List.forall_mem_cons.mpr ⟨ct_X11_worthOf_1, fun _ h => absurd h List.not_mem_nil⟩⟩)
set_option maxRecDepth 100000 in
theorem ct_X11_worth_0 : mc_X11_worth_0.all (ax_chkE mt_prog RX11 "worth" cX11_worth) = true := by decide +kernel
set_option maxRecDepth 100000 in
theorem ch_X11_worth : ax_chkH (mt_X11_worth, 1323, 127) = true := by decide +kernel
theorem pk_X11_worth : ax_MOk mt_prog mt_X11_worth := ax_MOk_of ch_X11_worth (List.forall_mem_cons.mpr ⟨ct_X11_worth_0, fun _ h => absurd h List.not_mem_nil⟩)
set_option maxRecDepth 100000 in
theorem ct_X11_keepsAll_0 : mc_X11_keepsAll_0.all (ax_chkE mt_prog RX11 "keepsAll" cX11_keepsAll) = true := by decide +kernel
set_option maxRecDepth 100000 in
theorem ct_X11_keepsAll_1 : mc_X11_keepsAll_1.all (ax_chkE mt_prog RX11 "keepsAll" cX11_keepsAll) = true := by decide +kernel
set_option maxRecDepth 100000 in
theorem ct_X11_keepsAll_2 : mc_X11_keepsAll_2.all (ax_chkE mt_prog RX11 "keepsAll" cX11_keepsAll) = true := by decide +kernel
set_option maxRecDepth 100000 in
theorem ct_X11_keepsAll_3 : mc_X11_keepsAll_3.all (ax_chkE mt_prog RX11 "keepsAll" cX11_keepsAll) = true := by decide +kernel
set_option maxRecDepth 100000 in
theorem ct_X11_keepsAll_4 : mc_X11_keepsAll_4.all (ax_chkE mt_prog RX11 "keepsAll" cX11_keepsAll) = true := by decide +kernel
set_option maxRecDepth 100000 in
theorem ct_X11_keepsAll_5 : mc_X11_keepsAll_5.all (ax_chkE mt_prog RX11 "keepsAll" cX11_keepsAll) = true := by decide +kernel
set_option maxRecDepth 100000 in
theorem ct_X11_keepsAll_6 : mc_X11_keepsAll_6.all (ax_chkE mt_prog RX11 "keepsAll" cX11_keepsAll) = true := by decide +kernel
set_option maxRecDepth 100000 in
theorem ct_X11_keepsAll_7 : mc_X11_keepsAll_7.all (ax_chkE mt_prog RX11 "keepsAll" cX11_keepsAll) = true := by decide +kernel
set_option maxRecDepth 100000 in
theorem ch_X11_keepsAll : ax_chkH (mt_X11_keepsAll, 1339, 127) = true := by decide +kernel
theorem pk_X11_keepsAll : ax_MOk mt_prog mt_X11_keepsAll := ax_MOk_of ch_X11_keepsAll (List.forall_mem_cons.mpr ⟨ct_X11_keepsAll_0, List.forall_mem_cons.mpr ⟨ct_X11_keepsAll_1, List.forall_mem_cons.mpr ⟨ct_X11_keepsAll_2, List.forall_mem_cons.mpr ⟨ct_X11_keepsAll_3, List.forall_mem_cons.mpr ⟨ct_X11_keepsAll_4, List.forall_mem_cons.mpr ⟨ct_X11_keepsAll_5, List.forall_mem_cons.mpr ⟨ct_X11_keepsAll_6, List.forall_mem_cons.mpr ⟨ct_X11_keepsAll_7, fun _ h => absurd h List.not_mem_nil⟩⟩⟩⟩⟩⟩⟩⟩)
set_option maxRecDepth 100000 in
theorem ct_X11_mayTake_0 : mc_X11_mayTake_0.all (ax_chkE mt_prog RX11 "mayTake" cX11_mayTake) = true := by decide +kernel
set_option maxRecDepth 100000 in
theorem ct_X11_mayTake_1 : mc_X11_mayTake_1.all (ax_chkE mt_prog RX11 "mayTake" cX11_mayTake) = true := by decide +kernel
set_option maxRecDepth 100000 in
theorem ch_X11_mayTake : ax_chkH (mt_X11_mayTake, 1343, 127) = true := by decide +kernel
theorem pk_X11_mayTake : ax_MOk mt_prog mt_X11_mayTake := ax_MOk_of ch_X11_mayTake (List.forall_mem_cons.mpr ⟨ct_X11_mayTake_0, List.forall_mem_cons.mpr ⟨ct_X11_mayTake_1, fun _ h => absurd h List.not_mem_nil⟩⟩)
set_option maxRecDepth 100000 in
theorem ct_X11_mayBegin_0 : mc_X11_mayBegin_0.all (ax_chkE mt_prog RX11 "mayBegin" cX11_mayBegin) = true := by decide +kernel
set_option maxRecDepth 100000 in
theorem ct_X11_mayBegin_1 : mc_X11_mayBegin_1.all (ax_chkE mt_prog RX11 "mayBegin" cX11_mayBegin) = true := by decide +kernel
set_option maxRecDepth 100000 in
theorem ct_X11_mayBegin_2 : mc_X11_mayBegin_2.all (ax_chkE mt_prog RX11 "mayBegin" cX11_mayBegin) = true := by decide +kernel
set_option maxRecDepth 100000 in
theorem ch_X11_mayBegin : ax_chkH (mt_X11_mayBegin, 1347, 127) = true := by decide +kernel
theorem pk_X11_mayBegin : ax_MOk mt_prog mt_X11_mayBegin := ax_MOk_of ch_X11_mayBegin (List.forall_mem_cons.mpr ⟨ct_X11_mayBegin_0, List.forall_mem_cons.mpr ⟨ct_X11_mayBegin_1, List.forall_mem_cons.mpr ⟨ct_X11_mayBegin_2, fun _ h => absurd h List.not_mem_nil⟩⟩⟩)
set_option maxRecDepth 100000 in
theorem ct_X11_keeps_0 : mc_X11_keeps_0.all (ax_chkE mt_prog RX11 "keeps" cX11_keeps) = true := by decide +kernel
set_option maxRecDepth 100000 in
theorem ct_X11_keeps_1 : mc_X11_keeps_1.all (ax_chkE mt_prog RX11 "keeps" cX11_keeps) = true := by decide +kernel
set_option maxRecDepth 100000 in
theorem ch_X11_keeps : ax_chkH (mt_X11_keeps, 1335, 127) = true := by decide +kernel
theorem pk_X11_keeps : ax_MOk mt_prog mt_X11_keeps := ax_MOk_of ch_X11_keeps (List.forall_mem_cons.mpr ⟨ct_X11_keeps_0, List.forall_mem_cons.mpr ⟨ct_X11_keeps_1, fun _ h => absurd h List.not_mem_nil⟩⟩)
set_option maxRecDepth 100000 in
theorem ct_X11_begins_0 : mc_X11_begins_0.all (ax_chkE mt_prog RX11 "begins" cX11_begins) = true := by decide +kernel
set_option maxRecDepth 100000 in
theorem ct_X11_begins_1 : mc_X11_begins_1.all (ax_chkE mt_prog RX11 "begins" cX11_begins) = true := by decide +kernel
set_option maxRecDepth 100000 in
theorem ch_X11_begins : ax_chkH (mt_X11_begins, 1351, 127) = true := by decide +kernel
theorem pk_X11_begins : ax_MOk mt_prog mt_X11_begins := ax_MOk_of ch_X11_begins (List.forall_mem_cons.mpr ⟨ct_X11_begins_0, List.forall_mem_cons.mpr ⟨ct_X11_begins_1, fun _ h => absurd h List.not_mem_nil⟩⟩)
set_option maxRecDepth 100000 in
theorem ct_X11_shared_0 : mc_X11_shared_0.all (ax_chkE mt_prog RX11 "shared" cX11_shared) = true := by decide +kernel
set_option maxRecDepth 100000 in
theorem ct_X11_shared_1 : mc_X11_shared_1.all (ax_chkE mt_prog RX11 "shared" cX11_shared) = true := by decide +kernel
set_option maxRecDepth 100000 in
theorem ch_X11_shared : ax_chkH (mt_X11_shared, 1367, 127) = true := by decide +kernel
theorem pk_X11_shared : ax_MOk mt_prog mt_X11_shared := ax_MOk_of ch_X11_shared (List.forall_mem_cons.mpr ⟨ct_X11_shared_0, List.forall_mem_cons.mpr ⟨ct_X11_shared_1, fun _ h => absurd h List.not_mem_nil⟩⟩)
set_option maxRecDepth 100000 in
theorem ct_X11_bound_0 : mc_X11_bound_0.all (ax_chkE mt_prog RX11 "bound" cX11_bound) = true := by decide +kernel
set_option maxRecDepth 100000 in
theorem ct_X11_bound_1 : mc_X11_bound_1.all (ax_chkE mt_prog RX11 "bound" cX11_bound) = true := by decide +kernel
set_option maxRecDepth 100000 in
theorem ct_X11_bound_2 : mc_X11_bound_2.all (ax_chkE mt_prog RX11 "bound" cX11_bound) = true := by decide +kernel
set_option maxRecDepth 100000 in
theorem ct_X11_bound_3 : mc_X11_bound_3.all (ax_chkE mt_prog RX11 "bound" cX11_bound) = true := by decide +kernel
set_option maxRecDepth 100000 in
theorem ct_X11_bound_4 : mc_X11_bound_4.all (ax_chkE mt_prog RX11 "bound" cX11_bound) = true := by decide +kernel
set_option maxRecDepth 100000 in
theorem ct_X11_bound_5 : mc_X11_bound_5.all (ax_chkE mt_prog RX11 "bound" cX11_bound) = true := by decide +kernel
set_option maxRecDepth 100000 in
theorem ct_X11_bound_6 : mc_X11_bound_6.all (ax_chkE mt_prog RX11 "bound" cX11_bound) = true := by decide +kernel
set_option maxRecDepth 100000 in
theorem ct_X11_bound_7 : mc_X11_bound_7.all (ax_chkE mt_prog RX11 "bound" cX11_bound) = true := by decide +kernel
set_option maxRecDepth 100000 in
theorem ch_X11_bound : ax_chkH (mt_X11_bound, 1364, 127) = true := by decide +kernel
theorem pk_X11_bound : ax_MOk mt_prog mt_X11_bound := ax_MOk_of ch_X11_bound (List.forall_mem_cons.mpr ⟨ct_X11_bound_0, List.forall_mem_cons.mpr ⟨ct_X11_bound_1, List.forall_mem_cons.mpr ⟨ct_X11_bound_2, List.forall_mem_cons.mpr ⟨ct_X11_bound_3, List.forall_mem_cons.mpr ⟨ct_X11_bound_4, List.forall_mem_cons.mpr ⟨ct_X11_bound_5, List.forall_mem_cons.mpr ⟨ct_X11_bound_6, List.forall_mem_cons.mpr ⟨ct_X11_bound_7, fun _ h => absurd h List.not_mem_nil⟩⟩⟩⟩⟩⟩⟩⟩)
