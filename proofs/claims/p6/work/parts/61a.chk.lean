/-! ===== the contracts are checked (printed by wip/safe/gen.py) ===== -/
set_option maxRecDepth 100000 in
theorem ck_5_E : ab_chkE mt_prog cs_mt cs_cd cs_all 5 cq_5 mt_X11_signOf cu_5 = true := by decide +kernel
set_option maxRecDepth 100000 in
theorem ck_6_E : ab_chkE mt_prog cs_mt cs_cd cs_all 6 cq_6 mt_X11_signOf cu_6 = true := by decide +kernel
set_option maxRecDepth 100000 in
theorem ck_7_E : ab_chkE mt_prog cs_mt cs_cd cs_all 7 cq_7 mt_X0_acceptMore cu_7 = true := by decide +kernel
set_option maxRecDepth 100000 in
theorem ck_7_0 : ab_chkC mt_prog cs_mt cs_cd cs_all 7 cq_7 mt_X0_acceptMore cu_7 cu_7_0 = true := by decide +kernel
set_option maxRecDepth 100000 in
theorem ck_7_1 : ab_chkC mt_prog cs_mt cs_cd cs_all 7 cq_7 mt_X0_acceptMore cu_7 cu_7_1 = true := by decide +kernel
set_option maxRecDepth 100000 in
theorem ck_8_E : ab_chkE mt_prog cs_mt cs_cd cs_all 8 cq_8 mt_X5_isTaken cu_8 = true := by decide +kernel
set_option maxRecDepth 100000 in
theorem ck_9_E : ab_chkE mt_prog cs_mt cs_cd cs_all 9 cq_9 mt_X0_addRow cu_9 = true := by decide +kernel
set_option maxRecDepth 100000 in
theorem ck_9_0 : ab_chkC mt_prog cs_mt cs_cd cs_all 9 cq_9 mt_X0_addRow cu_9 cu_9_0 = true := by decide +kernel
set_option maxRecDepth 100000 in
theorem ck_9_1 : ab_chkC mt_prog cs_mt cs_cd cs_all 9 cq_9 mt_X0_addRow cu_9 cu_9_1 = true := by decide +kernel
set_option maxRecDepth 100000 in
theorem ck_10_E : ab_chkE mt_prog cs_mt cs_cd cs_all 10 cq_10 mt_X0_leastOwed cu_10 = true := by decide +kernel
set_option maxRecDepth 100000 in
theorem ck_10_0 : ab_chkC mt_prog cs_mt cs_cd cs_all 10 cq_10 mt_X0_leastOwed cu_10 cu_10_0 = true := by decide +kernel
set_option maxRecDepth 100000 in
theorem ck_11_E : ab_chkE mt_prog cs_mt cs_cd cs_all 11 cq_11 mt_X0_pebbles cu_11 = true := by decide +kernel
set_option maxRecDepth 100000 in
theorem ck_11_0 : ab_chkC mt_prog cs_mt cs_cd cs_all 11 cq_11 mt_X0_pebbles cu_11 cu_11_0 = true := by decide +kernel
set_option maxRecDepth 100000 in
theorem ck_12_E : ab_chkE mt_prog cs_mt cs_cd cs_all 12 cq_12 mt_X0_canBeLifted cu_12 = true := by decide +kernel
set_option maxRecDepth 100000 in
theorem ck_13_E : ab_chkE mt_prog cs_mt cs_cd cs_all 13 cq_13 mt_X0_clear cu_13 = true := by decide +kernel
set_option maxRecDepth 100000 in
theorem ck_13_0 : ab_chkC mt_prog cs_mt cs_cd cs_all 13 cq_13 mt_X0_clear cu_13 cu_13_0 = true := by decide +kernel
set_option maxRecDepth 100000 in
theorem ck_14_E : ab_chkE mt_prog cs_mt cs_cd cs_all 14 cq_14 mt_X5_put cu_14 = true := by decide +kernel
set_option maxRecDepth 100000 in
theorem ck_14_0 : ab_chkC mt_prog cs_mt cs_cd cs_all 14 cq_14 mt_X5_put cu_14 cu_14_0 = true := by decide +kernel
set_option maxRecDepth 100000 in
theorem ck_15_E : ab_chkE mt_prog cs_mt cs_cd cs_all 15 cq_15 mt_X0_copyGiven cu_15 = true := by decide +kernel
set_option maxRecDepth 100000 in
theorem ck_15_0 : ab_chkC mt_prog cs_mt cs_cd cs_all 15 cq_15 mt_X0_copyGiven cu_15 cu_15_0 = true := by decide +kernel
set_option maxRecDepth 100000 in
theorem ck_16_E : ab_chkE mt_prog cs_mt cs_cd cs_all 16 cq_16 mt_X10_mix cu_16 = true := by decide +kernel
set_option maxRecDepth 100000 in
theorem ck_17_E : ab_chkE mt_prog cs_mt cs_cd cs_all 17 cq_17 mt_X0_digestOn cu_17 = true := by decide +kernel
set_option maxRecDepth 100000 in
theorem ck_17_0 : ab_chkC mt_prog cs_mt cs_cd cs_all 17 cq_17 mt_X0_digestOn cu_17 cu_17_0 = true := by decide +kernel
set_option maxRecDepth 100000 in
theorem ck_18_E : ab_chkE mt_prog cs_mt cs_cd cs_all 18 cq_18 mt_X0_hasColumns cu_18 = true := by decide +kernel
set_option maxRecDepth 100000 in
theorem ck_18_0 : ab_chkC mt_prog cs_mt cs_cd cs_all 18 cq_18 mt_X0_hasColumns cu_18 cu_18_0 = true := by decide +kernel
set_option maxRecDepth 100000 in
theorem ck_19_E : ab_chkE mt_prog cs_mt cs_cd cs_all 19 cq_19 mt_X0_nextStep cu_19 = true := by decide +kernel
set_option maxRecDepth 100000 in
theorem ck_19_0 : ab_chkC mt_prog cs_mt cs_cd cs_all 19 cq_19 mt_X0_nextStep cu_19 cu_19_0 = true := by decide +kernel
set_option maxRecDepth 100000 in
theorem ck_19_1 : ab_chkC mt_prog cs_mt cs_cd cs_all 19 cq_19 mt_X0_nextStep cu_19 cu_19_1 = true := by decide +kernel
set_option maxRecDepth 100000 in
theorem ck_19_2 : ab_chkC mt_prog cs_mt cs_cd cs_all 19 cq_19 mt_X0_nextStep cu_19 cu_19_2 = true := by decide +kernel
set_option maxRecDepth 100000 in
theorem ck_20_E : ab_chkE mt_prog cs_mt cs_cd cs_all 20 cq_20 mt_X0_settleAll cu_20 = true := by decide +kernel
set_option maxRecDepth 100000 in
theorem ck_20_0 : ab_chkC mt_prog cs_mt cs_cd cs_all 20 cq_20 mt_X0_settleAll cu_20 cu_20_0 = true := by decide +kernel
set_option maxRecDepth 100000 in
theorem ck_21_E : ab_chkE mt_prog cs_mt cs_cd cs_all 21 cq_21 mt_X0_total cu_21 = true := by decide +kernel
set_option maxRecDepth 100000 in
theorem ck_21_0 : ab_chkC mt_prog cs_mt cs_cd cs_all 21 cq_21 mt_X0_total cu_21 cu_21_0 = true := by decide +kernel
set_option maxRecDepth 100000 in
theorem ck_22_E : ab_chkE mt_prog cs_mt cs_cd cs_all 22 cq_22 mt_X10_asks cu_22 = true := by decide +kernel
set_option maxRecDepth 100000 in
theorem ck_23_E : ab_chkE mt_prog cs_mt cs_cd cs_all 23 cq_23 mt_X1_signIn cu_23 = true := by decide +kernel
set_option maxRecDepth 100000 in
theorem ck_24_E : ab_chkE mt_prog cs_mt cs_cd cs_all 24 cq_24 mt_X1_standingOf cu_24 = true := by decide +kernel
set_option maxRecDepth 100000 in
theorem ck_25_E : ab_chkE mt_prog cs_mt cs_cd cs_all 25 cq_25 mt_X1_closePlain cu_25 = true := by decide +kernel
set_option maxRecDepth 100000 in
theorem ck_26_E : ab_chkE mt_prog cs_mt cs_cd cs_all 26 cq_26 mt_X1_belowIn cu_26 = true := by decide +kernel
set_option maxRecDepth 100000 in
theorem ck_27_E : ab_chkE mt_prog cs_mt cs_cd cs_all 27 cq_27 mt_X1_mayTakeOnce cu_27 = true := by decide +kernel
set_option maxRecDepth 100000 in
theorem ck_28_E : ab_chkE mt_prog cs_mt cs_cd cs_all 28 cq_28 mt_X1_mayTakeTwice cu_28 = true := by decide +kernel
set_option maxRecDepth 100000 in
theorem ck_29_E : ab_chkE mt_prog cs_mt cs_cd cs_all 29 cq_29 mt_X1_openIn cu_29 = true := by decide +kernel
set_option maxRecDepth 100000 in
theorem ck_30_E : ab_chkE mt_prog cs_mt cs_cd cs_all 30 cq_30 mt_X1_closeTaking cu_30 = true := by decide +kernel
set_option maxRecDepth 100000 in
theorem ck_31_E : ab_chkE mt_prog cs_mt cs_cd cs_all 31 cq_31 mt_X1_leaveOpen cu_31 = true := by decide +kernel
set_option maxRecDepth 100000 in
theorem ck_32_E : ab_chkE mt_prog cs_mt cs_cd cs_all 32 cq_32 mt_X1_after cu_32 = true := by decide +kernel
set_option maxRecDepth 100000 in
theorem ck_33_E : ab_chkE mt_prog cs_mt cs_cd cs_all 33 cq_33 mt_X1_goodSigns cu_33 = true := by decide +kernel
set_option maxRecDepth 100000 in
theorem ck_33_0 : ab_chkC mt_prog cs_mt cs_cd cs_all 33 cq_33 mt_X1_goodSigns cu_33 cu_33_0 = true := by decide +kernel
set_option maxRecDepth 100000 in
theorem ck_34_E : ab_chkE mt_prog cs_mt cs_cd cs_all 34 cq_34 mt_X10_begins cu_34 = true := by decide +kernel
set_option maxRecDepth 100000 in
theorem ck_35_E : ab_chkE mt_prog cs_mt cs_cd cs_all 35 cq_35 mt_X10_blank cu_35 = true := by decide +kernel
set_option maxRecDepth 100000 in
theorem ck_36_E : ab_chkE mt_prog cs_mt cs_cd cs_all 36 cq_36 mt_X10_board cu_36 = true := by decide +kernel
set_option maxRecDepth 100000 in
theorem ck_37_E : ab_chkE mt_prog cs_mt cs_cd cs_all 37 cq_37 mt_X10_bundle cu_37 = true := by decide +kernel
set_option maxRecDepth 100000 in
theorem ck_38_E : ab_chkE mt_prog cs_mt cs_cd cs_all 38 cq_38 mt_X7_dropLikeWorths cu_38 = true := by decide +kernel
set_option maxRecDepth 100000 in
theorem ck_38_0 : ab_chkC mt_prog cs_mt cs_cd cs_all 38 cq_38 mt_X7_dropLikeWorths cu_38 cu_38_0 = true := by decide +kernel
set_option maxRecDepth 100000 in
theorem ck_39_E : ab_chkE mt_prog cs_mt cs_cd cs_all 39 cq_39 mt_X1_isWhole cu_39 = true := by decide +kernel
set_option maxRecDepth 100000 in
theorem ck_40_E : ab_chkE mt_prog cs_mt cs_cd cs_all 40 cq_40 mt_X5_total cu_40 = true := by decide +kernel
set_option maxRecDepth 100000 in
theorem ck_40_0 : ab_chkC mt_prog cs_mt cs_cd cs_all 40 cq_40 mt_X5_total cu_40 cu_40_0 = true := by decide +kernel
set_option maxRecDepth 100000 in
theorem ck_41_E : ab_chkE mt_prog cs_mt cs_cd cs_all 41 cq_41 mt_X7_keepFilling cu_41 = true := by decide +kernel
set_option maxRecDepth 100000 in
theorem ck_41_0 : ab_chkC mt_prog cs_mt cs_cd cs_all 41 cq_41 mt_X7_keepFilling cu_41 cu_41_0 = true := by decide +kernel
set_option maxRecDepth 100000 in
theorem ck_42_E : ab_chkE mt_prog cs_mt cs_cd cs_all 42 cq_42 mt_X7_fillFrom cu_42 = true := by decide +kernel
set_option maxRecDepth 100000 in
theorem ck_43_E : ab_chkE mt_prog cs_mt cs_cd cs_all 43 cq_43 mt_X7_fillFrom cu_43 = true := by decide +kernel
set_option maxRecDepth 100000 in
theorem ck_43_0 : ab_chkC mt_prog cs_mt cs_cd cs_all 43 cq_43 mt_X7_fillFrom cu_43 cu_43_0 = true := by decide +kernel
set_option maxRecDepth 100000 in
theorem ck_44_E : ab_chkE mt_prog cs_mt cs_cd cs_all 44 cq_44 mt_X7_fillFrom cu_44 = true := by decide +kernel
set_option maxRecDepth 100000 in
theorem ck_44_0 : ab_chkC mt_prog cs_mt cs_cd cs_all 44 cq_44 mt_X7_fillFrom cu_44 cu_44_0 = true := by decide +kernel
set_option maxRecDepth 100000 in
theorem ck_45_E : ab_chkE mt_prog cs_mt cs_cd cs_all 45 cq_45 mt_X7_fillFrom cu_45 = true := by decide +kernel
set_option maxRecDepth 100000 in
theorem ck_45_0 : ab_chkC mt_prog cs_mt cs_cd cs_all 45 cq_45 mt_X7_fillFrom cu_45 cu_45_0 = true := by decide +kernel
set_option maxRecDepth 100000 in
theorem ck_46_E : ab_chkE mt_prog cs_mt cs_cd cs_all 46 cq_46 mt_X7_fillFrom cu_46 = true := by decide +kernel
set_option maxRecDepth 100000 in
theorem ck_46_0 : ab_chkC mt_prog cs_mt cs_cd cs_all 46 cq_46 mt_X7_fillFrom cu_46 cu_46_0 = true := by decide +kernel
set_option maxRecDepth 100000 in
theorem ck_47_E : ab_chkE mt_prog cs_mt cs_cd cs_all 47 cq_47 mt_X7_fillFrom cu_47 = true := by decide +kernel
set_option maxRecDepth 100000 in
theorem ck_47_0 : ab_chkC mt_prog cs_mt cs_cd cs_all 47 cq_47 mt_X7_fillFrom cu_47 cu_47_0 = true := by decide +kernel
set_option maxRecDepth 100000 in
theorem ck_48_E : ab_chkE mt_prog cs_mt cs_cd cs_all 48 cq_48 mt_X7_fillFrom cu_48 = true := by decide +kernel
set_option maxRecDepth 100000 in
theorem ck_48_0 : ab_chkC mt_prog cs_mt cs_cd cs_all 48 cq_48 mt_X7_fillFrom cu_48 cu_48_0 = true := by decide +kernel
set_option maxRecDepth 100000 in
theorem ck_49_E : ab_chkE mt_prog cs_mt cs_cd cs_all 49 cq_49 mt_X7_fillFrom cu_49 = true := by decide +kernel
set_option maxRecDepth 100000 in
theorem ck_49_0 : ab_chkC mt_prog cs_mt cs_cd cs_all 49 cq_49 mt_X7_fillFrom cu_49 cu_49_0 = true := by decide +kernel
set_option maxRecDepth 100000 in
theorem ck_50_E : ab_chkE mt_prog cs_mt cs_cd cs_all 50 cq_50 mt_X7_fillFrom cu_50 = true := by decide +kernel
set_option maxRecDepth 100000 in
theorem ck_50_0 : ab_chkC mt_prog cs_mt cs_cd cs_all 50 cq_50 mt_X7_fillFrom cu_50 cu_50_0 = true := by decide +kernel
set_option maxRecDepth 100000 in
theorem ck_51_E : ab_chkE mt_prog cs_mt cs_cd cs_all 51 cq_51 mt_X7_fillFrom cu_51 = true := by decide +kernel
set_option maxRecDepth 100000 in
theorem ck_51_0 : ab_chkC mt_prog cs_mt cs_cd cs_all 51 cq_51 mt_X7_fillFrom cu_51 cu_51_0 = true := by decide +kernel
set_option maxRecDepth 100000 in
theorem ck_52_E : ab_chkE mt_prog cs_mt cs_cd cs_all 52 cq_52 mt_X7_fillFrom cu_52 = true := by decide +kernel
set_option maxRecDepth 100000 in
theorem ck_52_0 : ab_chkC mt_prog cs_mt cs_cd cs_all 52 cq_52 mt_X7_fillFrom cu_52 cu_52_0 = true := by decide +kernel
set_option maxRecDepth 100000 in
theorem ck_53_E : ab_chkE mt_prog cs_mt cs_cd cs_all 53 cq_53 mt_X7_fillFrom cu_53 = true := by decide +kernel
set_option maxRecDepth 100000 in
theorem ck_53_0 : ab_chkC mt_prog cs_mt cs_cd cs_all 53 cq_53 mt_X7_fillFrom cu_53 cu_53_0 = true := by decide +kernel
set_option maxRecDepth 100000 in
theorem ck_54_E : ab_chkE mt_prog cs_mt cs_cd cs_all 54 cq_54 mt_X7_fillFrom cu_54 = true := by decide +kernel
set_option maxRecDepth 100000 in
theorem ck_54_0 : ab_chkC mt_prog cs_mt cs_cd cs_all 54 cq_54 mt_X7_fillFrom cu_54 cu_54_0 = true := by decide +kernel
set_option maxRecDepth 100000 in
theorem ck_55_E : ab_chkE mt_prog cs_mt cs_cd cs_all 55 cq_55 mt_X7_fillFrom cu_55 = true := by decide +kernel
set_option maxRecDepth 100000 in
theorem ck_55_0 : ab_chkC mt_prog cs_mt cs_cd cs_all 55 cq_55 mt_X7_fillFrom cu_55 cu_55_0 = true := by decide +kernel
set_option maxRecDepth 100000 in
theorem ck_56_E : ab_chkE mt_prog cs_mt cs_cd cs_all 56 cq_56 mt_X7_fillFrom cu_56 = true := by decide +kernel
set_option maxRecDepth 100000 in
theorem ck_56_0 : ab_chkC mt_prog cs_mt cs_cd cs_all 56 cq_56 mt_X7_fillFrom cu_56 cu_56_0 = true := by decide +kernel
set_option maxRecDepth 100000 in
theorem ck_57_E : ab_chkE mt_prog cs_mt cs_cd cs_all 57 cq_57 mt_X7_fillFrom cu_57 = true := by decide +kernel
set_option maxRecDepth 100000 in
theorem ck_57_0 : ab_chkC mt_prog cs_mt cs_cd cs_all 57 cq_57 mt_X7_fillFrom cu_57 cu_57_0 = true := by decide +kernel
set_option maxRecDepth 100000 in
theorem ck_58_E : ab_chkE mt_prog cs_mt cs_cd cs_all 58 cq_58 mt_X7_fillFrom cu_58 = true := by decide +kernel
set_option maxRecDepth 100000 in
theorem ck_58_0 : ab_chkC mt_prog cs_mt cs_cd cs_all 58 cq_58 mt_X7_fillFrom cu_58 cu_58_0 = true := by decide +kernel
set_option maxRecDepth 100000 in
theorem ck_59_E : ab_chkE mt_prog cs_mt cs_cd cs_all 59 cq_59 mt_X7_fillFrom cu_59 = true := by decide +kernel
set_option maxRecDepth 100000 in
theorem ck_59_0 : ab_chkC mt_prog cs_mt cs_cd cs_all 59 cq_59 mt_X7_fillFrom cu_59 cu_59_0 = true := by decide +kernel
set_option maxRecDepth 100000 in
theorem ck_60_E : ab_chkE mt_prog cs_mt cs_cd cs_all 60 cq_60 mt_X7_fillFrom cu_60 = true := by decide +kernel
set_option maxRecDepth 100000 in
theorem ck_60_0 : ab_chkC mt_prog cs_mt cs_cd cs_all 60 cq_60 mt_X7_fillFrom cu_60 cu_60_0 = true := by decide +kernel
set_option maxRecDepth 100000 in
theorem ck_61_E : ab_chkE mt_prog cs_mt cs_cd cs_all 61 cq_61 mt_X7_fillFrom cu_61 = true := by decide +kernel
set_option maxRecDepth 100000 in
theorem ck_61_0 : ab_chkC mt_prog cs_mt cs_cd cs_all 61 cq_61 mt_X7_fillFrom cu_61 cu_61_0 = true := by decide +kernel
set_option maxRecDepth 100000 in
theorem ck_62_E : ab_chkE mt_prog cs_mt cs_cd cs_all 62 cq_62 mt_X7_fillFrom cu_62 = true := by decide +kernel
set_option maxRecDepth 100000 in
theorem ck_62_0 : ab_chkC mt_prog cs_mt cs_cd cs_all 62 cq_62 mt_X7_fillFrom cu_62 cu_62_0 = true := by decide +kernel
set_option maxRecDepth 100000 in
theorem ck_63_E : ab_chkE mt_prog cs_mt cs_cd cs_all 63 cq_63 mt_X7_fillFrom cu_63 = true := by decide +kernel
set_option maxRecDepth 100000 in
theorem ck_63_0 : ab_chkC mt_prog cs_mt cs_cd cs_all 63 cq_63 mt_X7_fillFrom cu_63 cu_63_0 = true := by decide +kernel
set_option maxRecDepth 100000 in
theorem ck_64_E : ab_chkE mt_prog cs_mt cs_cd cs_all 64 cq_64 mt_X7_sortWorths cu_64 = true := by decide +kernel
set_option maxRecDepth 100000 in
theorem ck_64_0 : ab_chkC mt_prog cs_mt cs_cd cs_all 64 cq_64 mt_X7_sortWorths cu_64 cu_64_0 = true := by decide +kernel
set_option maxRecDepth 100000 in
theorem ck_64_1 : ab_chkC mt_prog cs_mt cs_cd cs_all 64 cq_64 mt_X7_sortWorths cu_64 cu_64_1 = true := by decide +kernel
set_option maxRecDepth 100000 in
theorem ck_64_2 : ab_chkC mt_prog cs_mt cs_cd cs_all 64 cq_64 mt_X7_sortWorths cu_64 cu_64_2 = true := by decide +kernel
set_option maxRecDepth 100000 in
theorem ck_65_E : ab_chkE mt_prog cs_mt cs_cd cs_all 65 cq_65 mt_X7_fillBy cu_65 = true := by decide +kernel
set_option maxRecDepth 100000 in
theorem ck_65_0 : ab_chkC mt_prog cs_mt cs_cd cs_all 65 cq_65 mt_X7_fillBy cu_65 cu_65_0 = true := by decide +kernel
set_option maxRecDepth 100000 in
theorem ck_66_E : ab_chkE mt_prog cs_mt cs_cd cs_all 66 cq_66 mt_X10_readStone cu_66 = true := by decide +kernel
set_option maxRecDepth 100000 in
theorem ck_67_E : ab_chkE mt_prog cs_mt cs_cd cs_all 67 cq_67 mt_X10_could cu_67 = true := by decide +kernel
