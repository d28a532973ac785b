/-! ===== cases of call 13, further ===== -/
set_option maxRecDepth 100000 in
theorem cr_13_7 : (cs_prod [cp_SG]).all (fun ds => cs_run (.int 13) (13, 13) 5 (cs_full :: (6, 6) :: ds)) = true := by decide +kernel
set_option maxRecDepth 100000 in
theorem cr_13_8 : (cs_prod [cp_SG]).all (fun ds => cs_run (.int 13) (13, 13) 5 (cs_full :: (7, 7) :: ds)) = true := by decide +kernel
set_option maxRecDepth 100000 in
theorem cr_13_9 : (cs_prod [cp_SG]).all (fun ds => cs_run (.int 13) (13, 13) 5 (cs_full :: (8, 8) :: ds)) = true := by decide +kernel
set_option maxRecDepth 100000 in
theorem cr_13_10 : (cs_prod [cp_SG]).all (fun ds => cs_run (.int 13) (13, 13) 5 (cs_full :: (9, 9) :: ds)) = true := by decide +kernel
set_option maxRecDepth 100000 in
theorem cr_13_11 : (cs_prod [cp_SG]).all (fun ds => cs_run (.int 13) (13, 13) 5 (cs_full :: (10, 10) :: ds)) = true := by decide +kernel
set_option maxRecDepth 100000 in
theorem cr_13_12 : (cs_prod [cp_SG]).all (fun ds => cs_run (.int 13) (13, 13) 5 (cs_full :: (11, 11) :: ds)) = true := by decide +kernel
set_option maxRecDepth 100000 in
theorem cr_13_13 : (cs_prod [cp_SG]).all (fun ds => cs_run (.int 13) (13, 13) 5 (cs_full :: (12, 2147483647) :: ds)) = true := by decide +kernel
theorem cr_13 : ∀ ds ∈ cs_prod [cp_ROW, cp_SG], cs_run (.int 13) (13, 13) 5 (cs_full :: ds) = true := cs_split (List.forall_mem_cons.mpr ⟨fun ds hd => List.all_eq_true.mp cr_13_0 ds hd, List.forall_mem_cons.mpr ⟨fun ds hd => List.all_eq_true.mp cr_13_1 ds hd, List.forall_mem_cons.mpr ⟨fun ds hd => List.all_eq_true.mp cr_13_2 ds hd, List.forall_mem_cons.mpr ⟨fun ds hd => List.all_eq_true.mp cr_13_3 ds hd, List.forall_mem_cons.mpr ⟨fun ds hd => List.all_eq_true.mp cr_13_4 ds hd, List.forall_mem_cons.mpr ⟨fun ds hd => List.all_eq_true.mp cr_13_5 ds hd, List.forall_mem_cons.mpr ⟨fun ds hd => List.all_eq_true.mp cr_13_6 ds hd, List.forall_mem_cons.mpr ⟨fun ds hd => List.all_eq_true.mp cr_13_7 ds hd, List.forall_mem_cons.mpr ⟨fun ds hd => List.all_eq_true.mp cr_13_8 ds hd, List.forall_mem_cons.mpr ⟨fun ds hd => List.all_eq_true.mp cr_13_9 ds hd, List.forall_mem_cons.mpr ⟨fun ds hd => List.all_eq_true.mp cr_13_10 ds hd, List.forall_mem_cons.mpr ⟨fun ds hd => List.all_eq_true.mp cr_13_11 ds hd, List.forall_mem_cons.mpr ⟨fun ds hd => List.all_eq_true.mp cr_13_12 ds hd, List.forall_mem_cons.mpr ⟨fun ds hd => List.all_eq_true.mp cr_13_13 ds hd, fun _ h => absurd h List.not_mem_nil⟩⟩⟩⟩⟩⟩⟩⟩⟩⟩⟩⟩⟩⟩)
