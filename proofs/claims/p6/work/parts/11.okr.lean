/-! ===== the tables are checked ===== -/
set_option maxRecDepth 100000 in
theorem ct_X11_isBy_0 : mc_X11_isBy_0.all (ax_chkE mt_prog RX11 "isBy" cX11_isBy) = true := by decide +kernel
set_option maxRecDepth 100000 in
theorem ct_X11_isBy_1 : mc_X11_isBy_1.all (ax_chkE mt_prog RX11 "isBy" cX11_isBy) = true := by decide +kernel
set_option maxRecDepth 100000 in
theorem ct_X11_isBy_2 : mc_X11_isBy_2.all (ax_chkE mt_prog RX11 "isBy" cX11_isBy) = true := by decide +kernel
set_option maxRecDepth 100000 in
theorem ct_X11_isBy_3 : mc_X11_isBy_3.all (ax_chkE mt_prog RX11 "isBy" cX11_isBy) = true := by decide +kernel
set_option maxRecDepth 100000 in
theorem ch_X11_isBy : ax_chkH (mt_X11_isBy, 1585, 127) = true := by decide +kernel
theorem pk_X11_isBy : ax_MOk mt_prog mt_X11_isBy := ax_MOk_of ch_X11_isBy (List.forall_mem_cons.mpr ⟨ct_X11_isBy_0, List.forall_mem_cons.mpr ⟨ct_X11_isBy_1, List.forall_mem_cons.mpr ⟨ct_X11_isBy_2, List.forall_mem_cons.mpr ⟨ct_X11_isBy_3, fun _ h => absurd h List.not_mem_nil⟩⟩⟩⟩)
set_option maxRecDepth 100000 in
theorem ct_X11_seekSlip_0 : mc_X11_seekSlip_0.all (ax_chkE mt_prog RX11 "seekSlip" cX11_seekSlip) = true := by decide +kernel
set_option maxRecDepth 100000 in
theorem ct_X11_seekSlip_1 : mc_X11_seekSlip_1.all (ax_chkE mt_prog RX11 "seekSlip" cX11_seekSlip) = true := by decide +kernel
set_option maxRecDepth 100000 in
theorem ct_X11_seekSlip_2 : mc_X11_seekSlip_2.all (ax_chkE mt_prog RX11 "seekSlip" cX11_seekSlip) = true := by decide +kernel
set_option maxRecDepth 100000 in
theorem ct_X11_seekSlip_3 : mc_X11_seekSlip_3.all (ax_chkE mt_prog RX11 "seekSlip" cX11_seekSlip) = true := by decide +kernel
set_option maxRecDepth 100000 in
theorem ct_X11_seekSlip_4 : mc_X11_seekSlip_4.all (ax_chkE mt_prog RX11 "seekSlip" cX11_seekSlip) = true := by decide +kernel
set_option maxRecDepth 100000 in
theorem ct_X11_seekSlip_5 : mc_X11_seekSlip_5.all (ax_chkE mt_prog RX11 "seekSlip" cX11_seekSlip) = true := by decide +kernel
set_option maxRecDepth 100000 in
theorem ct_X11_seekSlip_6 : mc_X11_seekSlip_6.all (ax_chkE mt_prog RX11 "seekSlip" cX11_seekSlip) = true := by decide +kernel
set_option maxRecDepth 100000 in
theorem ch_X11_seekSlip : ax_chkH (mt_X11_seekSlip, 1581, 127) = true := by decide +kernel
theorem pk_X11_seekSlip : ax_MOk mt_prog mt_X11_seekSlip := ax_MOk_of ch_X11_seekSlip (List.forall_mem_cons.mpr ⟨ct_X11_seekSlip_0, List.forall_mem_cons.mpr ⟨ct_X11_seekSlip_1, List.forall_mem_cons.mpr ⟨ct_X11_seekSlip_2, List.forall_mem_cons.mpr ⟨ct_X11_seekSlip_3, List.forall_mem_cons.mpr ⟨ct_X11_seekSlip_4, List.forall_mem_cons.mpr ⟨ct_X11_seekSlip_5, List.forall_mem_cons.mpr ⟨ct_X11_seekSlip_6, fun _ h => absurd h List.not_mem_nil⟩⟩⟩⟩⟩⟩⟩)
set_option maxRecDepth 100000 in
theorem ct_X11_slip_0 : mc_X11_slip_0.all (ax_chkE mt_prog RX11 "slip" cX11_slip) = true := by decide +kernel
set_option maxRecDepth 100000 in
theorem ct_X11_slip_1 : mc_X11_slip_1.all (ax_chkE mt_prog RX11 "slip" cX11_slip) = true := by decide +kernel
set_option maxRecDepth 100000 in
theorem ch_X11_slip : ax_chkH (mt_X11_slip, 1577, 127) = true := by decide +kernel
theorem pk_X11_slip : ax_MOk mt_prog mt_X11_slip := ax_MOk_of ch_X11_slip (List.forall_mem_cons.mpr ⟨ct_X11_slip_0, List.forall_mem_cons.mpr ⟨ct_X11_slip_1, fun _ h => absurd h List.not_mem_nil⟩⟩)
set_option maxRecDepth 100000 in
theorem ct_X11_count_0 : mc_X11_count_0.all (ax_chkE mt_prog RX11 "count" cX11_count) = true := by decide +kernel
set_option maxRecDepth 100000 in
theorem ct_X11_count_1 : mc_X11_count_1.all (ax_chkE mt_prog RX11 "count" cX11_count) = true := by decide +kernel
set_option maxRecDepth 100000 in
theorem ct_X11_count_2 : mc_X11_count_2.all (ax_chkE mt_prog RX11 "count" cX11_count) = true := by decide +kernel
set_option maxRecDepth 100000 in
theorem ch_X11_count : ax_chkH (mt_X11_count, 1593, 127) = true := by decide +kernel
theorem pk_X11_count : ax_MOk mt_prog mt_X11_count := ax_MOk_of ch_X11_count (List.forall_mem_cons.mpr ⟨ct_X11_count_0, List.forall_mem_cons.mpr ⟨ct_X11_count_1, List.forall_mem_cons.mpr ⟨ct_X11_count_2, fun _ h => absurd h List.not_mem_nil⟩⟩⟩)
set_option maxRecDepth 100000 in
theorem ct_X11_mix_0 : mc_X11_mix_0.all (ax_chkE mt_prog RX11 "mix" cX11_mix) = true := by decide +kernel
set_option maxRecDepth 100000 in
theorem ch_X11_mix : ax_chkH (mt_X11_mix, 1602, 127) = true := by decide +kernel
theorem pk_X11_mix : ax_MOk mt_prog mt_X11_mix := ax_MOk_of ch_X11_mix (List.forall_mem_cons.mpr ⟨ct_X11_mix_0, fun _ h => absurd h List.not_mem_nil⟩)
set_option maxRecDepth 100000 in
theorem ct_X11_mixCustoms_0 : mc_X11_mixCustoms_0.all (ax_chkE mt_prog RX11 "mixCustoms" cX11_mixCustoms) = true := by decide +kernel
set_option maxRecDepth 100000 in
theorem ct_X11_mixCustoms_1 : mc_X11_mixCustoms_1.all (ax_chkE mt_prog RX11 "mixCustoms" cX11_mixCustoms) = true := by decide +kernel
set_option maxRecDepth 100000 in
theorem ch_X11_mixCustoms : ax_chkH (mt_X11_mixCustoms, 1607, 127) = true := by decide +kernel
theorem pk_X11_mixCustoms : ax_MOk mt_prog mt_X11_mixCustoms := ax_MOk_of ch_X11_mixCustoms (List.forall_mem_cons.mpr ⟨ct_X11_mixCustoms_0, List.forall_mem_cons.mpr ⟨ct_X11_mixCustoms_1, fun _ h => absurd h List.not_mem_nil⟩⟩)
set_option maxRecDepth 100000 in
theorem ct_X11_digest_0 : mc_X11_digest_0.all (ax_chkE mt_prog RX11 "digest" cX11_digest) = true := by decide +kernel
set_option maxRecDepth 100000 in
theorem ct_X11_digest_1 : mc_X11_digest_1.all (ax_chkE mt_prog RX11 "digest" cX11_digest) = true := by decide +kernel
set_option maxRecDepth 100000 in
theorem ct_X11_digest_2 : mc_X11_digest_2.all (ax_chkE mt_prog RX11 "digest" cX11_digest) = true := by decide +kernel
set_option maxRecDepth 100000 in
theorem ct_X11_digest_3 : mc_X11_digest_3.all (ax_chkE mt_prog RX11 "digest" cX11_digest) = true := by decide +kernel
set_option maxRecDepth 100000 in
theorem ct_X11_digest_4 : mc_X11_digest_4.all (ax_chkE mt_prog RX11 "digest" cX11_digest) = true := by decide +kernel
set_option maxRecDepth 100000 in
theorem ct_X11_digest_5 : mc_X11_digest_5.all (ax_chkE mt_prog RX11 "digest" cX11_digest) = true := by decide +kernel
set_option maxRecDepth 100000 in
theorem ct_X11_digest_6 : mc_X11_digest_6.all (ax_chkE mt_prog RX11 "digest" cX11_digest) = true := by decide +kernel
set_option maxRecDepth 100000 in
theorem ct_X11_digest_7 : mc_X11_digest_7.all (ax_chkE mt_prog RX11 "digest" cX11_digest) = true := by decide +kernel
set_option maxRecDepth 100000 in
theorem ct_X11_digest_8 : mc_X11_digest_8.all (ax_chkE mt_prog RX11 "digest" cX11_digest) = true := by decide +kernel
set_option maxRecDepth 100000 in
theorem ch_X11_digest : ax_chkH (mt_X11_digest, 1597, 127) = true := by decide +kernel
theorem pk_X11_digest : ax_MOk mt_prog mt_X11_digest := ax_MOk_of ch_X11_digest (List.forall_mem_cons.mpr ⟨ct_X11_digest_0, List.forall_mem_cons.mpr ⟨ct_X11_digest_1, List.forall_mem_cons.mpr ⟨ct_X11_digest_2, List.forall_mem_cons.mpr ⟨ct_X11_digest_3, List.forall_mem_cons.mpr ⟨ct_X11_digest_4, List.forall_mem_cons.mpr ⟨ct_X11_digest_5, List.forall_mem_cons.mpr ⟨ct_X11_digest_6, List.forall_mem_cons.mpr ⟨ct_X11_digest_7, List.forall_mem_cons.mpr ⟨ct_X11_digest_8, fun _ h => absurd h List.not_mem_nil⟩⟩⟩⟩⟩⟩⟩⟩⟩)
