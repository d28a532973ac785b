/-! ===== the contracts are checked (printed by wip/safe/gen.py) ===== -/
set_option maxRecDepth 100000 in
theorem ck_68_E : ab_chkE mt_prog cs_mt cs_cd cs_all 68 cq_68 mt_X10_count cu_68 = true := by decide +kernel
set_option maxRecDepth 100000 in
theorem ck_69_E : ab_chkE mt_prog cs_mt cs_cd cs_all 69 cq_69 mt_X1_allows cu_69 = true := by decide +kernel
set_option maxRecDepth 100000 in
theorem ck_69_0 : ab_chkC mt_prog cs_mt cs_cd cs_all 69 cq_69 mt_X1_allows cu_69 cu_69_0 = true := by decide +kernel
set_option maxRecDepth 100000 in
theorem ck_70_E : ab_chkE mt_prog cs_mt cs_cd cs_all 70 cq_70 mt_X3_meet cu_70 = true := by decide +kernel
set_option maxRecDepth 100000 in
theorem ck_70_0 : ab_chkC mt_prog cs_mt cs_cd cs_all 70 cq_70 mt_X3_meet cu_70 cu_70_0 = true := by decide +kernel
set_option maxRecDepth 100000 in
theorem ck_71_E : ab_chkE mt_prog cs_mt cs_cd cs_all 71 cq_71 mt_X6_at cu_71 = true := by decide +kernel
set_option maxRecDepth 100000 in
theorem ck_72_E : ab_chkE mt_prog cs_mt cs_cd cs_all 72 cq_72 mt_X6_outweighs cu_72 = true := by decide +kernel
set_option maxRecDepth 100000 in
theorem ck_73_E : ab_chkE mt_prog cs_mt cs_cd cs_all 73 cq_73 mt_X6_behindMark cu_73 = true := by decide +kernel
set_option maxRecDepth 100000 in
theorem ck_74_E : ab_chkE mt_prog cs_mt cs_cd cs_all 74 cq_74 mt_X6_behindSign cu_74 = true := by decide +kernel
set_option maxRecDepth 100000 in
theorem ck_75_E : ab_chkE mt_prog cs_mt cs_cd cs_all 75 cq_75 mt_X6_endsRule cu_75 = true := by decide +kernel
set_option maxRecDepth 100000 in
theorem ck_76_E : ab_chkE mt_prog cs_mt cs_cd cs_all 76 cq_76 mt_X6_after cu_76 = true := by decide +kernel
set_option maxRecDepth 100000 in
theorem ck_77_E : ab_chkE mt_prog cs_mt cs_cd cs_all 77 cq_77 mt_X6_isWhole cu_77 = true := by decide +kernel
set_option maxRecDepth 100000 in
theorem ck_77_0 : ab_chkC mt_prog cs_mt cs_cd cs_all 77 cq_77 mt_X6_isWhole cu_77 cu_77_0 = true := by decide +kernel
set_option maxRecDepth 100000 in
theorem ck_78_E : ab_chkE mt_prog cs_mt cs_cd cs_all 78 cq_78 mt_X6_keep cu_78 = true := by decide +kernel
set_option maxRecDepth 100000 in
theorem ck_79_E : ab_chkE mt_prog cs_mt cs_cd cs_all 79 cq_79 mt_X6_read cu_79 = true := by decide +kernel
set_option maxRecDepth 100000 in
theorem ck_79_0 : ab_chkC mt_prog cs_mt cs_cd cs_all 79 cq_79 mt_X6_read cu_79 cu_79_0 = true := by decide +kernel
set_option maxRecDepth 100000 in
theorem ck_80_E : ab_chkE mt_prog cs_mt cs_cd cs_all 80 cq_80 mt_X10_custom cu_80 = true := by decide +kernel
set_option maxRecDepth 100000 in
theorem ck_80_0 : ab_chkC mt_prog cs_mt cs_cd cs_all 80 cq_80 mt_X10_custom cu_80 cu_80_0 = true := by decide +kernel
set_option maxRecDepth 100000 in
theorem ck_81_E : ab_chkE mt_prog cs_mt cs_cd cs_all 81 cq_81 mt_X10_customsAllowing cu_81 = true := by decide +kernel
set_option maxRecDepth 100000 in
theorem ck_81_0 : ab_chkC mt_prog cs_mt cs_cd cs_all 81 cq_81 mt_X10_customsAllowing cu_81 cu_81_0 = true := by decide +kernel
set_option maxRecDepth 100000 in
theorem ck_82_E : ab_chkE mt_prog cs_mt cs_cd cs_all 82 cq_82 mt_X1_digestOn cu_82 = true := by decide +kernel
set_option maxRecDepth 100000 in
theorem ck_82_0 : ab_chkC mt_prog cs_mt cs_cd cs_all 82 cq_82 mt_X1_digestOn cu_82 cu_82_0 = true := by decide +kernel
set_option maxRecDepth 100000 in
theorem ck_83_E : ab_chkE mt_prog cs_mt cs_cd cs_all 83 cq_83 mt_X2_digestOn cu_83 = true := by decide +kernel
set_option maxRecDepth 100000 in
theorem ck_83_0 : ab_chkC mt_prog cs_mt cs_cd cs_all 83 cq_83 mt_X2_digestOn cu_83 cu_83_0 = true := by decide +kernel
set_option maxRecDepth 100000 in
theorem ck_84_E : ab_chkE mt_prog cs_mt cs_cd cs_all 84 cq_84 mt_X4_digestOn cu_84 = true := by decide +kernel
set_option maxRecDepth 100000 in
theorem ck_84_0 : ab_chkC mt_prog cs_mt cs_cd cs_all 84 cq_84 mt_X4_digestOn cu_84 cu_84_0 = true := by decide +kernel
set_option maxRecDepth 100000 in
theorem ck_85_E : ab_chkE mt_prog cs_mt cs_cd cs_all 85 cq_85 mt_X5_digestOn cu_85 = true := by decide +kernel
set_option maxRecDepth 100000 in
theorem ck_85_0 : ab_chkC mt_prog cs_mt cs_cd cs_all 85 cq_85 mt_X5_digestOn cu_85 cu_85_0 = true := by decide +kernel
set_option maxRecDepth 100000 in
theorem ck_86_E : ab_chkE mt_prog cs_mt cs_cd cs_all 86 cq_86 mt_X7_digestOn cu_86 = true := by decide +kernel
set_option maxRecDepth 100000 in
theorem ck_86_0 : ab_chkC mt_prog cs_mt cs_cd cs_all 86 cq_86 mt_X7_digestOn cu_86 cu_86_0 = true := by decide +kernel
set_option maxRecDepth 100000 in
theorem ck_87_E : ab_chkE mt_prog cs_mt cs_cd cs_all 87 cq_87 mt_X10_digest cu_87 = true := by decide +kernel
set_option maxRecDepth 100000 in
theorem ck_87_0 : ab_chkC mt_prog cs_mt cs_cd cs_all 87 cq_87 mt_X10_digest cu_87 cu_87_0 = true := by decide +kernel
set_option maxRecDepth 100000 in
theorem ck_87_1 : ab_chkC mt_prog cs_mt cs_cd cs_all 87 cq_87 mt_X10_digest cu_87 cu_87_1 = true := by decide +kernel
set_option maxRecDepth 100000 in
theorem ck_87_2 : ab_chkC mt_prog cs_mt cs_cd cs_all 87 cq_87 mt_X10_digest cu_87 cu_87_2 = true := by decide +kernel
set_option maxRecDepth 100000 in
theorem ck_88_E : ab_chkE mt_prog cs_mt cs_cd cs_all 88 cq_88 mt_X10_doublings cu_88 = true := by decide +kernel
set_option maxRecDepth 100000 in
theorem ck_88_0 : ab_chkC mt_prog cs_mt cs_cd cs_all 88 cq_88 mt_X10_doublings cu_88 cu_88_0 = true := by decide +kernel
set_option maxRecDepth 100000 in
theorem ck_89_E : ab_chkE mt_prog cs_mt cs_cd cs_all 89 cq_89 mt_X6_goodLetters cu_89 = true := by decide +kernel
set_option maxRecDepth 100000 in
theorem ck_89_0 : ab_chkC mt_prog cs_mt cs_cd cs_all 89 cq_89 mt_X6_goodLetters cu_89 cu_89_0 = true := by decide +kernel
set_option maxRecDepth 100000 in
theorem ck_90_E : ab_chkE mt_prog cs_mt cs_cd cs_all 90 cq_90 mt_X10_good cu_90 = true := by decide +kernel
set_option maxRecDepth 100000 in
theorem ck_91_E : ab_chkE mt_prog cs_mt cs_cd cs_all 91 cq_91 mt_X10_habit cu_91 = true := by decide +kernel
set_option maxRecDepth 100000 in
theorem ck_92_E : ab_chkE mt_prog cs_mt cs_cd cs_all 92 cq_92 mt_X10_halvings cu_92 = true := by decide +kernel
set_option maxRecDepth 100000 in
theorem ck_92_0 : ab_chkC mt_prog cs_mt cs_cd cs_all 92 cq_92 mt_X10_halvings cu_92 cu_92_0 = true := by decide +kernel
set_option maxRecDepth 100000 in
theorem ck_93_E : ab_chkE mt_prog cs_mt cs_cd cs_all 93 cq_93 mt_X10_hands cu_93 = true := by decide +kernel
set_option maxRecDepth 100000 in
theorem ck_93_0 : ab_chkC mt_prog cs_mt cs_cd cs_all 93 cq_93 mt_X10_hands cu_93 cu_93_0 = true := by decide +kernel
set_option maxRecDepth 100000 in
theorem ck_94_E : ab_chkE mt_prog cs_mt cs_cd cs_all 94 cq_94 mt_X10_holds cu_94 = true := by decide +kernel
set_option maxRecDepth 100000 in
theorem ck_95_E : ab_chkE mt_prog cs_mt cs_cd cs_all 95 cq_95 mt_X10_keeps cu_95 = true := by decide +kernel
set_option maxRecDepth 100000 in
theorem ck_96_E : ab_chkE mt_prog cs_mt cs_cd cs_all 96 cq_96 mt_X4_codeAt cu_96 = true := by decide +kernel
set_option maxRecDepth 100000 in
theorem ck_97_E : ab_chkE mt_prog cs_mt cs_cd cs_all 97 cq_97 mt_X4_append cu_97 = true := by decide +kernel
set_option maxRecDepth 100000 in
theorem ck_97_0 : ab_chkC mt_prog cs_mt cs_cd cs_all 97 cq_97 mt_X4_append cu_97 cu_97_0 = true := by decide +kernel
set_option maxRecDepth 100000 in
theorem ck_98_E : ab_chkE mt_prog cs_mt cs_cd cs_all 98 cq_98 mt_X4_lettersIn cu_98 = true := by decide +kernel
set_option maxRecDepth 100000 in
theorem ck_98_0 : ab_chkC mt_prog cs_mt cs_cd cs_all 98 cq_98 mt_X4_lettersIn cu_98 cu_98_0 = true := by decide +kernel
set_option maxRecDepth 100000 in
theorem ck_99_E : ab_chkE mt_prog cs_mt cs_cd cs_all 99 cq_99 mt_X10_letters cu_99 = true := by decide +kernel
set_option maxRecDepth 100000 in
theorem ck_100_E : ab_chkE mt_prog cs_mt cs_cd cs_all 100 cq_100 mt_X10_lift cu_100 = true := by decide +kernel
set_option maxRecDepth 100000 in
theorem ck_101_E : ab_chkE mt_prog cs_mt cs_cd cs_all 101 cq_101 mt_X5_copy cu_101 = true := by decide +kernel
set_option maxRecDepth 100000 in
theorem ck_101_0 : ab_chkC mt_prog cs_mt cs_cd cs_all 101 cq_101 mt_X5_copy cu_101 cu_101_0 = true := by decide +kernel
set_option maxRecDepth 100000 in
theorem ck_102_E : ab_chkE mt_prog cs_mt cs_cd cs_all 102 cq_102 mt_X2_append cu_102 = true := by decide +kernel
set_option maxRecDepth 100000 in
theorem ck_103_E : ab_chkE mt_prog cs_mt cs_cd cs_all 103 cq_103 mt_X10_line cu_103 = true := by decide +kernel
set_option maxRecDepth 100000 in
theorem ck_104_E : ab_chkE mt_prog cs_mt cs_cd cs_all 104 cq_104 mt_X10_linesTaken cu_104 = true := by decide +kernel
set_option maxRecDepth 100000 in
theorem ck_104_0 : ab_chkC mt_prog cs_mt cs_cd cs_all 104 cq_104 mt_X10_linesTaken cu_104 cu_104_0 = true := by decide +kernel
set_option maxRecDepth 100000 in
theorem ck_105_E : ab_chkE mt_prog cs_mt cs_cd cs_all 105 cq_105 mt_X2_totalAhead cu_105 = true := by decide +kernel
set_option maxRecDepth 100000 in
theorem ck_106_E : ab_chkE mt_prog cs_mt cs_cd cs_all 106 cq_106 mt_X2_firstWrong cu_106 = true := by decide +kernel
set_option maxRecDepth 100000 in
theorem ck_106_0 : ab_chkC mt_prog cs_mt cs_cd cs_all 106 cq_106 mt_X2_firstWrong cu_106 cu_106_0 = true := by decide +kernel
set_option maxRecDepth 100000 in
theorem ck_107_E : ab_chkE mt_prog cs_mt cs_cd cs_all 107 cq_107 mt_X2_firstMended cu_107 = true := by decide +kernel
set_option maxRecDepth 100000 in
theorem ck_107_0 : ab_chkC mt_prog cs_mt cs_cd cs_all 107 cq_107 mt_X2_firstMended cu_107 cu_107_0 = true := by decide +kernel
set_option maxRecDepth 100000 in
theorem ck_108_E : ab_chkE mt_prog cs_mt cs_cd cs_all 108 cq_108 mt_X10_mended cu_108 = true := by decide +kernel
set_option maxRecDepth 100000 in
theorem ck_109_E : ab_chkE mt_prog cs_mt cs_cd cs_all 109 cq_109 mt_X3_remember cu_109 = true := by decide +kernel
set_option maxRecDepth 100000 in
theorem ck_110_E : ab_chkE mt_prog cs_mt cs_cd cs_all 110 cq_110 mt_X10_note cu_110 = true := by decide +kernel
set_option maxRecDepth 100000 in
theorem ck_111_E : ab_chkE mt_prog cs_mt cs_cd cs_all 111 cq_111 mt_X10_parts cu_111 = true := by decide +kernel
set_option maxRecDepth 100000 in
theorem ck_112_E : ab_chkE mt_prog cs_mt cs_cd cs_all 112 cq_112 mt_X10_pour cu_112 = true := by decide +kernel
set_option maxRecDepth 100000 in
theorem ck_113_E : ab_chkE mt_prog cs_mt cs_cd cs_all 113 cq_113 mt_X10_product cu_113 = true := by decide +kernel
set_option maxRecDepth 100000 in
theorem ck_113_0 : ab_chkC mt_prog cs_mt cs_cd cs_all 113 cq_113 mt_X10_product cu_113 cu_113_0 = true := by decide +kernel
set_option maxRecDepth 100000 in
theorem ck_114_E : ab_chkE mt_prog cs_mt cs_cd cs_all 114 cq_114 mt_X4_copySigns cu_114 = true := by decide +kernel
set_option maxRecDepth 100000 in
theorem ck_114_0 : ab_chkC mt_prog cs_mt cs_cd cs_all 114 cq_114 mt_X4_copySigns cu_114 cu_114_0 = true := by decide +kernel
set_option maxRecDepth 100000 in
theorem ck_115_E : ab_chkE mt_prog cs_mt cs_cd cs_all 115 cq_115 mt_X4_isRowOfSigns cu_115 = true := by decide +kernel
set_option maxRecDepth 100000 in
theorem ck_115_0 : ab_chkC mt_prog cs_mt cs_cd cs_all 115 cq_115 mt_X4_isRowOfSigns cu_115 cu_115_0 = true := by decide +kernel
set_option maxRecDepth 100000 in
theorem ck_116_E : ab_chkE mt_prog cs_mt cs_cd cs_all 116 cq_116 mt_X10_row cu_116 = true := by decide +kernel
set_option maxRecDepth 100000 in
theorem ck_117_E : ab_chkE mt_prog cs_mt cs_cd cs_all 117 cq_117 mt_X10_says cu_117 = true := by decide +kernel
set_option maxRecDepth 100000 in
theorem ck_118_E : ab_chkE mt_prog cs_mt cs_cd cs_all 118 cq_118 mt_X10_settle cu_118 = true := by decide +kernel
set_option maxRecDepth 100000 in
theorem ck_119_E : ab_chkE mt_prog cs_mt cs_cd cs_all 119 cq_119 mt_X10_sign cu_119 = true := by decide +kernel
set_option maxRecDepth 100000 in
theorem ck_120_E : ab_chkE mt_prog cs_mt cs_cd cs_all 120 cq_120 mt_X2_foundSlip cu_120 = true := by decide +kernel
set_option maxRecDepth 100000 in
theorem ck_121_E : ab_chkE mt_prog cs_mt cs_cd cs_all 121 cq_121 mt_X2_withOneLess cu_121 = true := by decide +kernel
set_option maxRecDepth 100000 in
theorem ck_121_0 : ab_chkC mt_prog cs_mt cs_cd cs_all 121 cq_121 mt_X2_withOneLess cu_121 cu_121_0 = true := by decide +kernel
set_option maxRecDepth 100000 in
theorem ck_121_1 : ab_chkC mt_prog cs_mt cs_cd cs_all 121 cq_121 mt_X2_withOneLess cu_121 cu_121_1 = true := by decide +kernel
set_option maxRecDepth 100000 in
theorem ck_122_E : ab_chkE mt_prog cs_mt cs_cd cs_all 122 cq_122 mt_X2_anySignFits cu_122 = true := by decide +kernel
set_option maxRecDepth 100000 in
theorem ck_122_0 : ab_chkC mt_prog cs_mt cs_cd cs_all 122 cq_122 mt_X2_anySignFits cu_122 cu_122_0 = true := by decide +kernel
set_option maxRecDepth 100000 in
theorem ck_123_E : ab_chkE mt_prog cs_mt cs_cd cs_all 123 cq_123 mt_X2_withOneMore cu_123 = true := by decide +kernel
set_option maxRecDepth 100000 in
theorem ck_123_0 : ab_chkC mt_prog cs_mt cs_cd cs_all 123 cq_123 mt_X2_withOneMore cu_123 cu_123_0 = true := by decide +kernel
set_option maxRecDepth 100000 in
theorem ck_123_1 : ab_chkC mt_prog cs_mt cs_cd cs_all 123 cq_123 mt_X2_withOneMore cu_123 cu_123_1 = true := by decide +kernel
set_option maxRecDepth 100000 in
theorem ck_124_E : ab_chkE mt_prog cs_mt cs_cd cs_all 124 cq_124 mt_X2_withOneOther cu_124 = true := by decide +kernel
set_option maxRecDepth 100000 in
theorem ck_124_0 : ab_chkC mt_prog cs_mt cs_cd cs_all 124 cq_124 mt_X2_withOneOther cu_124 cu_124_0 = true := by decide +kernel
set_option maxRecDepth 100000 in
theorem ck_125_E : ab_chkE mt_prog cs_mt cs_cd cs_all 125 cq_125 mt_X2_canBecome cu_125 = true := by decide +kernel
set_option maxRecDepth 100000 in
theorem ck_126_E : ab_chkE mt_prog cs_mt cs_cd cs_all 126 cq_126 mt_X2_findSlip cu_126 = true := by decide +kernel
set_option maxRecDepth 100000 in
theorem ck_127_E : ab_chkE mt_prog cs_mt cs_cd cs_all 127 cq_127 mt_X10_slip cu_127 = true := by decide +kernel
set_option maxRecDepth 100000 in
theorem ck_128_E : ab_chkE mt_prog cs_mt cs_cd cs_all 128 cq_128 mt_X10_step cu_128 = true := by decide +kernel
set_option maxRecDepth 100000 in
theorem ck_129_E : ab_chkE mt_prog cs_mt cs_cd cs_all 129 cq_129 mt_X10_sure cu_129 = true := by decide +kernel
set_option maxRecDepth 100000 in
theorem ck_130_E : ab_chkE mt_prog cs_mt cs_cd cs_all 130 cq_130 mt_X10_sweep cu_130 = true := by decide +kernel
set_option maxRecDepth 100000 in
theorem ck_131_E : ab_chkE mt_prog cs_mt cs_cd cs_all 131 cq_131 mt_X2_clear cu_131 = true := by decide +kernel
set_option maxRecDepth 100000 in
theorem ck_132_E : ab_chkE mt_prog cs_mt cs_cd cs_all 132 cq_132 mt_X10_tear cu_132 = true := by decide +kernel
set_option maxRecDepth 100000 in
theorem ck_133_E : ab_chkE mt_prog cs_mt cs_cd cs_all 133 cq_133 mt_X10_times cu_133 = true := by decide +kernel
set_option maxRecDepth 100000 in
theorem ck_134_E : ab_chkE mt_prog cs_mt cs_cd cs_all 134 cq_134 mt_X10_unbundle cu_134 = true := by decide +kernel
set_option maxRecDepth 100000 in
theorem ck_135_E : ab_chkE mt_prog cs_mt cs_cd cs_all 135 cq_135 mt_X8_startFor cu_135 = true := by decide +kernel
