/-! ===== cases of call 27, by the first argument ===== -/
set_option maxRecDepth 100000 in
theorem cr_27_0 : (cs_prod [cp_ROW]).all (fun ds => cs_run (.int 27) (27, 27) 5 (cs_full :: ((-2147483648), (-1)) :: ds)) = true := by decide +kernel
set_option maxRecDepth 100000 in
theorem cr_27_1 : (cs_prod [cp_ROW]).all (fun ds => cs_run (.int 27) (27, 27) 5 (cs_full :: (0, 0) :: ds)) = true := by decide +kernel
set_option maxRecDepth 100000 in
theorem cr_27_2 : (cs_prod [cp_ROW]).all (fun ds => cs_run (.int 27) (27, 27) 5 (cs_full :: (1, 1) :: ds)) = true := by decide +kernel
set_option maxRecDepth 100000 in
theorem cr_27_3 : (cs_prod [cp_ROW]).all (fun ds => cs_run (.int 27) (27, 27) 5 (cs_full :: (2, 2) :: ds)) = true := by decide +kernel
set_option maxRecDepth 100000 in
theorem cr_27_4 : (cs_prod [cp_ROW]).all (fun ds => cs_run (.int 27) (27, 27) 5 (cs_full :: (3, 3) :: ds)) = true := by decide +kernel
set_option maxRecDepth 100000 in
theorem cr_27_5 : (cs_prod [cp_ROW]).all (fun ds => cs_run (.int 27) (27, 27) 5 (cs_full :: (4, 4) :: ds)) = true := by decide +kernel
set_option maxRecDepth 100000 in
theorem cr_27_6 : (cs_prod [cp_ROW]).all (fun ds => cs_run (.int 27) (27, 27) 5 (cs_full :: (5, 5) :: ds)) = true := by decide +kernel
