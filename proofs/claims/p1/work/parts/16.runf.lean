/-! ===== cases of call 30, by the first argument ===== -/
set_option maxRecDepth 100000 in
theorem cr_30_0 : (cs_prod [cp_ROW]).all (fun ds => cs_run (.int 30) (30, 30) 5 (cs_full :: ((-2147483648), (-1)) :: ds)) = true := by decide +kernel
set_option maxRecDepth 100000 in
theorem cr_30_1 : (cs_prod [cp_ROW]).all (fun ds => cs_run (.int 30) (30, 30) 5 (cs_full :: (0, 0) :: ds)) = true := by decide +kernel
set_option maxRecDepth 100000 in
theorem cr_30_2 : (cs_prod [cp_ROW]).all (fun ds => cs_run (.int 30) (30, 30) 5 (cs_full :: (1, 1) :: ds)) = true := by decide +kernel
set_option maxRecDepth 100000 in
theorem cr_30_3 : (cs_prod [cp_ROW]).all (fun ds => cs_run (.int 30) (30, 30) 5 (cs_full :: (2, 2) :: ds)) = true := by decide +kernel
set_option maxRecDepth 100000 in
theorem cr_30_4 : (cs_prod [cp_ROW]).all (fun ds => cs_run (.int 30) (30, 30) 5 (cs_full :: (3, 3) :: ds)) = true := by decide +kernel
set_option maxRecDepth 100000 in
theorem cr_30_5 : (cs_prod [cp_ROW]).all (fun ds => cs_run (.int 30) (30, 30) 5 (cs_full :: (4, 4) :: ds)) = true := by decide +kernel
set_option maxRecDepth 100000 in
theorem cr_30_6 : (cs_prod [cp_ROW]).all (fun ds => cs_run (.int 30) (30, 30) 5 (cs_full :: (5, 5) :: ds)) = true := by decide +kernel
