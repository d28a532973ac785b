/-! ===== all cases of all calls on new objects, but letters, times, parts, run ===== -/
def cp_ANY : List (Int × Int) := [((-2147483648), 2147483647)]
def cp_ROW : List (Int × Int) := [((-2147483648), (-1)), (0, 0), (1, 1), (2, 2), (3, 3), (4, 4), (5, 5), (6, 6), (7, 7), (8, 8), (9, 9), (10, 10), (11, 11), (12, 2147483647)]
def cp_R3 : List (Int × Int) := [((-2147483648), (-1)), (0, 11), (12, 2147483647)]
def cp_K2 : List (Int × Int) := [((-2147483648), (-1)), (0, 2147483647)]
def cp_SG : List (Int × Int) := [((-2147483648), (-1)), (0, 0), (1, 2147483647)]
def cp_B7 : List (Int × Int) := [((-2147483648), (-1)), (0, 0), (1, 1), (2, 2), (3, 3), (4, 4), (5, 5), (6, 6), (7, 2147483647)]
def cp_SD : List (Int × Int) := [((-2147483648), (-1)), (0, 0), (1, 1), (2, 2147483647)]
def cp_B6 : List (Int × Int) := [((-2147483648), (-1)), (0, 0), (1, 1), (2, 2), (3, 3), (4, 4), (5, 5), (6, 2147483647)]
def cp_U6 : List (Int × Int) := [((-2147483648), 0), (1, 1), (2, 2), (3, 3), (4, 4), (5, 5), (6, 6), (7, 2147483647)]
def cp_W4 : List (Int × Int) := [((-2147483648), (-1)), (0, 3), (4, 2147483647)]
set_option maxRecDepth 100000 in
theorem cr_1_all : (cs_prod []).all (fun ds => cs_run (.int 1) (1, 1) 5 (cs_full :: ds)) = true := by decide +kernel
theorem cr_1 : ∀ ds ∈ cs_prod [], cs_run (.int 1) (1, 1) 5 (cs_full :: ds) = true := fun ds hd => List.all_eq_true.mp cr_1_all ds hd
set_option maxRecDepth 100000 in
theorem cr_2_all : (cs_prod []).all (fun ds => cs_run (.int 2) (2, 2) 5 (cs_full :: ds)) = true := by decide +kernel
theorem cr_2 : ∀ ds ∈ cs_prod [], cs_run (.int 2) (2, 2) 5 (cs_full :: ds) = true := fun ds hd => List.all_eq_true.mp cr_2_all ds hd
set_option maxRecDepth 100000 in
theorem cr_3_all : (cs_prod []).all (fun ds => cs_run (.int 3) (3, 3) 5 (cs_full :: ds)) = true := by decide +kernel
theorem cr_3 : ∀ ds ∈ cs_prod [], cs_run (.int 3) (3, 3) 5 (cs_full :: ds) = true := fun ds hd => List.all_eq_true.mp cr_3_all ds hd
set_option maxRecDepth 100000 in
theorem cr_4_all : (cs_prod [cp_K2]).all (fun ds => cs_run (.int 4) (4, 4) 5 (cs_full :: ds)) = true := by decide +kernel
theorem cr_4 : ∀ ds ∈ cs_prod [cp_K2], cs_run (.int 4) (4, 4) 5 (cs_full :: ds) = true := fun ds hd => List.all_eq_true.mp cr_4_all ds hd
set_option maxRecDepth 100000 in
theorem cr_5_all : (cs_prod [cp_R3]).all (fun ds => cs_run (.int 5) (5, 5) 5 (cs_full :: ds)) = true := by decide +kernel
theorem cr_5 : ∀ ds ∈ cs_prod [cp_R3], cs_run (.int 5) (5, 5) 5 (cs_full :: ds) = true := fun ds hd => List.all_eq_true.mp cr_5_all ds hd
set_option maxRecDepth 100000 in
theorem cr_6_all : (cs_prod [cp_ROW, cp_SG]).all (fun ds => cs_run (.int 6) (6, 6) 5 (cs_full :: ds)) = true := by decide +kernel
theorem cr_6 : ∀ ds ∈ cs_prod [cp_ROW, cp_SG], cs_run (.int 6) (6, 6) 5 (cs_full :: ds) = true := fun ds hd => List.all_eq_true.mp cr_6_all ds hd
set_option maxRecDepth 100000 in
theorem cr_7_all : (cs_prod [cp_ROW]).all (fun ds => cs_run (.int 7) (7, 7) 5 (cs_full :: ds)) = true := by decide +kernel
theorem cr_7 : ∀ ds ∈ cs_prod [cp_ROW], cs_run (.int 7) (7, 7) 5 (cs_full :: ds) = true := fun ds hd => List.all_eq_true.mp cr_7_all ds hd
set_option maxRecDepth 100000 in
theorem cr_8_all : (cs_prod [cp_R3, cp_K2]).all (fun ds => cs_run (.int 8) (8, 8) 5 (cs_full :: ds)) = true := by decide +kernel
theorem cr_8 : ∀ ds ∈ cs_prod [cp_R3, cp_K2], cs_run (.int 8) (8, 8) 5 (cs_full :: ds) = true := fun ds hd => List.all_eq_true.mp cr_8_all ds hd
set_option maxRecDepth 100000 in
theorem cr_9_all : (cs_prod [cp_R3, cp_K2]).all (fun ds => cs_run (.int 9) (9, 9) 5 (cs_full :: ds)) = true := by decide +kernel
theorem cr_9 : ∀ ds ∈ cs_prod [cp_R3, cp_K2], cs_run (.int 9) (9, 9) 5 (cs_full :: ds) = true := fun ds hd => List.all_eq_true.mp cr_9_all ds hd
set_option maxRecDepth 100000 in
theorem cr_10_all : (cs_prod [cp_K2]).all (fun ds => cs_run (.int 10) (10, 10) 5 (cs_full :: ds)) = true := by decide +kernel
theorem cr_10 : ∀ ds ∈ cs_prod [cp_K2], cs_run (.int 10) (10, 10) 5 (cs_full :: ds) = true := fun ds hd => List.all_eq_true.mp cr_10_all ds hd
set_option maxRecDepth 100000 in
theorem cr_11_all : (cs_prod [cp_R3, cp_K2]).all (fun ds => cs_run (.int 11) (11, 11) 5 (cs_full :: ds)) = true := by decide +kernel
theorem cr_11 : ∀ ds ∈ cs_prod [cp_R3, cp_K2], cs_run (.int 11) (11, 11) 5 (cs_full :: ds) = true := fun ds hd => List.all_eq_true.mp cr_11_all ds hd
set_option maxRecDepth 100000 in
theorem cr_12_all : (cs_prod [cp_B7, cp_SD]).all (fun ds => cs_run (.int 12) (12, 12) 5 (cs_full :: ds)) = true := by decide +kernel
theorem cr_12 : ∀ ds ∈ cs_prod [cp_B7, cp_SD], cs_run (.int 12) (12, 12) 5 (cs_full :: ds) = true := fun ds hd => List.all_eq_true.mp cr_12_all ds hd
set_option maxRecDepth 100000 in
theorem cr_14_all : (cs_prod [cp_B6]).all (fun ds => cs_run (.int 14) (14, 14) 5 (cs_full :: ds)) = true := by decide +kernel
theorem cr_14 : ∀ ds ∈ cs_prod [cp_B6], cs_run (.int 14) (14, 14) 5 (cs_full :: ds) = true := fun ds hd => List.all_eq_true.mp cr_14_all ds hd
set_option maxRecDepth 100000 in
theorem cr_15_all : (cs_prod [cp_U6]).all (fun ds => cs_run (.int 15) (15, 15) 5 (cs_full :: ds)) = true := by decide +kernel
theorem cr_15 : ∀ ds ∈ cs_prod [cp_U6], cs_run (.int 15) (15, 15) 5 (cs_full :: ds) = true := fun ds hd => List.all_eq_true.mp cr_15_all ds hd
set_option maxRecDepth 100000 in
theorem cr_16_all : (cs_prod []).all (fun ds => cs_run (.int 16) (16, 16) 5 (cs_full :: ds)) = true := by decide +kernel
theorem cr_16 : ∀ ds ∈ cs_prod [], cs_run (.int 16) (16, 16) 5 (cs_full :: ds) = true := fun ds hd => List.all_eq_true.mp cr_16_all ds hd
set_option maxRecDepth 100000 in
theorem cr_17_all : (cs_prod [cp_K2]).all (fun ds => cs_run (.int 17) (17, 17) 5 (cs_full :: ds)) = true := by decide +kernel
theorem cr_17 : ∀ ds ∈ cs_prod [cp_K2], cs_run (.int 17) (17, 17) 5 (cs_full :: ds) = true := fun ds hd => List.all_eq_true.mp cr_17_all ds hd
set_option maxRecDepth 100000 in
theorem cr_18_all : (cs_prod []).all (fun ds => cs_run (.int 18) (18, 18) 5 (cs_full :: ds)) = true := by decide +kernel
theorem cr_18 : ∀ ds ∈ cs_prod [], cs_run (.int 18) (18, 18) 5 (cs_full :: ds) = true := fun ds hd => List.all_eq_true.mp cr_18_all ds hd
set_option maxRecDepth 100000 in
theorem cr_19_all : (cs_prod [cp_R3]).all (fun ds => cs_run (.int 19) (19, 19) 5 (cs_full :: ds)) = true := by decide +kernel
theorem cr_19 : ∀ ds ∈ cs_prod [cp_R3], cs_run (.int 19) (19, 19) 5 (cs_full :: ds) = true := fun ds hd => List.all_eq_true.mp cr_19_all ds hd
set_option maxRecDepth 100000 in
theorem cr_20_all : (cs_prod []).all (fun ds => cs_run (.int 20) (20, 20) 5 (cs_full :: ds)) = true := by decide +kernel
theorem cr_20 : ∀ ds ∈ cs_prod [], cs_run (.int 20) (20, 20) 5 (cs_full :: ds) = true := fun ds hd => List.all_eq_true.mp cr_20_all ds hd
set_option maxRecDepth 100000 in
theorem cr_23_all : (cs_prod []).all (fun ds => cs_run (.int 23) (23, 23) 5 (cs_full :: ds)) = true := by decide +kernel
theorem cr_23 : ∀ ds ∈ cs_prod [], cs_run (.int 23) (23, 23) 5 (cs_full :: ds) = true := fun ds hd => List.all_eq_true.mp cr_23_all ds hd
set_option maxRecDepth 100000 in
theorem cr_24_all : (cs_prod [cp_K2]).all (fun ds => cs_run (.int 24) (24, 24) 5 (cs_full :: ds)) = true := by decide +kernel
theorem cr_24 : ∀ ds ∈ cs_prod [cp_K2], cs_run (.int 24) (24, 24) 5 (cs_full :: ds) = true := fun ds hd => List.all_eq_true.mp cr_24_all ds hd
set_option maxRecDepth 100000 in
theorem cr_25_all : (cs_prod [cp_K2]).all (fun ds => cs_run (.int 25) (25, 25) 5 (cs_full :: ds)) = true := by decide +kernel
theorem cr_25 : ∀ ds ∈ cs_prod [cp_K2], cs_run (.int 25) (25, 25) 5 (cs_full :: ds) = true := fun ds hd => List.all_eq_true.mp cr_25_all ds hd
set_option maxRecDepth 100000 in
theorem cr_26_all : (cs_prod [cp_K2]).all (fun ds => cs_run (.int 26) (26, 26) 5 (cs_full :: ds)) = true := by decide +kernel
theorem cr_26 : ∀ ds ∈ cs_prod [cp_K2], cs_run (.int 26) (26, 26) 5 (cs_full :: ds) = true := fun ds hd => List.all_eq_true.mp cr_26_all ds hd
set_option maxRecDepth 100000 in
theorem cr_28_all : (cs_prod [cp_B6]).all (fun ds => cs_run (.int 28) (28, 28) 5 (cs_full :: ds)) = true := by decide +kernel
theorem cr_28 : ∀ ds ∈ cs_prod [cp_B6], cs_run (.int 28) (28, 28) 5 (cs_full :: ds) = true := fun ds hd => List.all_eq_true.mp cr_28_all ds hd
set_option maxRecDepth 100000 in
theorem cr_29_all : (cs_prod [cp_ROW]).all (fun ds => cs_run (.int 29) (29, 29) 5 (cs_full :: ds)) = true := by decide +kernel
theorem cr_29 : ∀ ds ∈ cs_prod [cp_ROW], cs_run (.int 29) (29, 29) 5 (cs_full :: ds) = true := fun ds hd => List.all_eq_true.mp cr_29_all ds hd
set_option maxRecDepth 100000 in
theorem cr_31_all : (cs_prod []).all (fun ds => cs_run (.int 31) (31, 31) 5 (cs_full :: ds)) = true := by decide +kernel
theorem cr_31 : ∀ ds ∈ cs_prod [], cs_run (.int 31) (31, 31) 5 (cs_full :: ds) = true := fun ds hd => List.all_eq_true.mp cr_31_all ds hd
set_option maxRecDepth 100000 in
theorem cr_32_all : (cs_prod []).all (fun ds => cs_run (.int 32) (32, 32) 5 (cs_full :: ds)) = true := by decide +kernel
theorem cr_32 : ∀ ds ∈ cs_prod [], cs_run (.int 32) (32, 32) 5 (cs_full :: ds) = true := fun ds hd => List.all_eq_true.mp cr_32_all ds hd
set_option maxRecDepth 100000 in
theorem cr_33_all : (cs_prod []).all (fun ds => cs_run (.int 33) (33, 33) 5 (cs_full :: ds)) = true := by decide +kernel
theorem cr_33 : ∀ ds ∈ cs_prod [], cs_run (.int 33) (33, 33) 5 (cs_full :: ds) = true := fun ds hd => List.all_eq_true.mp cr_33_all ds hd
set_option maxRecDepth 100000 in
theorem cr_34_all : (cs_prod [cp_W4]).all (fun ds => cs_run (.int 34) (34, 34) 5 (cs_full :: ds)) = true := by decide +kernel
theorem cr_34 : ∀ ds ∈ cs_prod [cp_W4], cs_run (.int 34) (34, 34) 5 (cs_full :: ds) = true := fun ds hd => List.all_eq_true.mp cr_34_all ds hd
set_option maxRecDepth 100000 in
theorem cr_35_all : (cs_prod [cp_B7]).all (fun ds => cs_run (.int 35) (35, 35) 5 (cs_full :: ds)) = true := by decide +kernel
theorem cr_35 : ∀ ds ∈ cs_prod [cp_B7], cs_run (.int 35) (35, 35) 5 (cs_full :: ds) = true := fun ds hd => List.all_eq_true.mp cr_35_all ds hd
set_option maxRecDepth 100000 in
theorem cr_36_all : (cs_prod []).all (fun ds => cs_run (.int 36) (36, 36) 5 (cs_full :: ds)) = true := by decide +kernel
theorem cr_36 : ∀ ds ∈ cs_prod [], cs_run (.int 36) (36, 36) 5 (cs_full :: ds) = true := fun ds hd => List.all_eq_true.mp cr_36_all ds hd
set_option maxRecDepth 100000 in
theorem cr_dflt : cs_run (.float 9) (37, 63) 5 [] = true := by decide +kernel
set_option maxRecDepth 100000 in
theorem cr_short_0 : cs_run (.float 9) (0, 63) 0 [] = true := by decide +kernel
set_option maxRecDepth 100000 in
theorem cr_short_1 : cs_run (.float 9) (0, 63) 1 [] = true := by decide +kernel
set_option maxRecDepth 100000 in
theorem cr_short_2 : cs_run (.float 9) (0, 63) 2 [] = true := by decide +kernel
set_option maxRecDepth 100000 in
theorem cr_short_3 : cs_run (.float 9) (0, 63) 3 [] = true := by decide +kernel
set_option maxRecDepth 100000 in
theorem cr_short_4 : cs_run (.float 9) (0, 63) 4 [] = true := by decide +kernel
