/-! ===== cases of call 13, by the first argument ===== -/
set_option maxRecDepth 100000 in
theorem cr_13_0 : (cs_prod [cp_SG]).all (fun ds => cs_run (.int 13) (13, 13) 5 (cs_full :: ((-2147483648), (-1)) :: ds)) = true := by decide +kernel
set_option maxRecDepth 100000 in
theorem cr_13_1 : (cs_prod [cp_SG]).all (fun ds => cs_run (.int 13) (13, 13) 5 (cs_full :: (0, 0) :: ds)) = true := by decide +kernel
set_option maxRecDepth 100000 in
theorem cr_13_2 : (cs_prod [cp_SG]).all (fun ds => cs_run (.int 13) (13, 13) 5 (cs_full :: (1, 1) :: ds)) = true := by decide +kernel
set_option maxRecDepth 100000 in
theorem cr_13_3 : (cs_prod [cp_SG]).all (fun ds => cs_run (.int 13) (13, 13) 5 (cs_full :: (2, 2) :: ds)) = true := by decide +kernel
set_option maxRecDepth 100000 in
theorem cr_13_4 : (cs_prod [cp_SG]).all (fun ds => cs_run (.int 13) (13, 13) 5 (cs_full :: (3, 3) :: ds)) = true := by decide +kernel
set_option maxRecDepth 100000 in
theorem cr_13_5 : (cs_prod [cp_SG]).all (fun ds => cs_run (.int 13) (13, 13) 5 (cs_full :: (4, 4) :: ds)) = true := by decide +kernel
set_option maxRecDepth 100000 in
theorem cr_13_6 : (cs_prod [cp_SG]).all (fun ds => cs_run (.int 13) (13, 13) 5 (cs_full :: (5, 5) :: ds)) = true := by decide +kernel
