/-! ===== cases of call 30, further ===== -/
set_option maxRecDepth 100000 in
theorem cr_30_7 : (cs_prod [cp_ROW]).all (fun ds => cs_run (.int 30) (30, 30) 5 (cs_full :: (6, 6) :: ds)) = true := by decide +kernel
set_option maxRecDepth 100000 in
theorem cr_30_8 : (cs_prod [cp_ROW]).all (fun ds => cs_run (.int 30) (30, 30) 5 (cs_full :: (7, 7) :: ds)) = true := by decide +kernel
set_option maxRecDepth 100000 in
theorem cr_30_9 : (cs_prod [cp_ROW]).all (fun ds => cs_run (.int 30) (30, 30) 5 (cs_full :: (8, 8) :: ds)) = true := by decide +kernel
set_option maxRecDepth 100000 in
theorem cr_30_10 : (cs_prod [cp_ROW]).all (fun ds => cs_run (.int 30) (30, 30) 5 (cs_full :: (9, 9) :: ds)) = true := by decide +kernel
set_option maxRecDepth 100000 in
theorem cr_30_11 : (cs_prod [cp_ROW]).all (fun ds => cs_run (.int 30) (30, 30) 5 (cs_full :: (10, 10) :: ds)) = true := by decide +kernel
set_option maxRecDepth 100000 in
theorem cr_30_12 : (cs_prod [cp_ROW]).all (fun ds => cs_run (.int 30) (30, 30) 5 (cs_full :: (11, 11) :: ds)) = true := by decide +kernel
set_option maxRecDepth 100000 in
theorem cr_30_13 : (cs_prod [cp_ROW]).all (fun ds => cs_run (.int 30) (30, 30) 5 (cs_full :: (12, 2147483647) :: ds)) = true := by decide +kernel
theorem cr_30 : ∀ ds ∈ cs_prod [cp_ROW, cp_ROW], cs_run (.int 30) (30, 30) 5 (cs_full :: ds) = true := cs_split (List.forall_mem_cons.mpr ⟨fun ds hd => List.all_eq_true.mp cr_30_0 ds hd, List.forall_mem_cons.mpr ⟨fun ds hd => List.all_eq_true.mp cr_30_1 ds hd, List.forall_mem_cons.mpr ⟨fun ds hd => List.all_eq_true.mp cr_30_2 ds hd, List.forall_mem_cons.mpr ⟨fun ds hd => List.all_eq_true.mp cr_30_3 ds hd, List.forall_mem_cons.mpr ⟨fun ds hd => List.all_eq_true.mp cr_30_4 ds hd, List.forall_mem_cons.mpr ⟨fun ds hd => List.all_eq_true.mp cr_30_5 ds hd, List.forall_mem_cons.mpr ⟨fun ds hd => List.all_eq_true.mp cr_30_6 ds hd, List.forall_mem_cons.mpr ⟨fun ds hd => List.all_eq_true.mp cr_30_7 ds hd, List.forall_mem_cons.mpr ⟨fun ds hd => List.all_eq_true.mp cr_30_8 ds hd, List.forall_mem_cons.mpr ⟨fun ds hd => List.all_eq_true.mp cr_30_9 ds hd, List.forall_mem_cons.mpr ⟨fun ds hd => List.all_eq_true.mp cr_30_10 ds hd, List.forall_mem_cons.mpr ⟨fun ds hd => List.all_eq_true.mp cr_30_11 ds hd, List.forall_mem_cons.mpr ⟨fun ds hd => List.all_eq_true.mp cr_30_12 ds hd, List.forall_mem_cons.mpr ⟨fun ds hd => List.all_eq_true.mp cr_30_13 ds hd, fun _ h => absurd h List.not_mem_nil⟩⟩⟩⟩⟩⟩⟩⟩⟩⟩⟩⟩⟩⟩)
