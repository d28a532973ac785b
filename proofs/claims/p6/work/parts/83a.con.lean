/-! ===== line, tear, note: how many there are, exactly (printed by wip/v2/mk83.py) ===== -/
def nq_0 : ab_Q := (33, 3, ([(0, av_k 35), (1, av_s 0), (2, av_s 1)], [], [.inr (some 512), .inr (some 512), .inl (0, 19, 0)], [], [(av_k 35, av_c 4, av_s 2)], [], 0, 0), [(3255653929845760, (-2)), (1205614499856896, 1), (2199023255552, 4), (2199023255552, 6)], [([], [], [.inr (some 512), .inr (some 512), .inl (0, 19, 0), .inl (1, 20, 0)], [(2, 3, (-1)), (3, 2, 1)], [(av_k 35, av_c 4, av_s 3)], [], 0, 0)])  -- X2_append
def nu_0 : List ab_CU := []
def nq_1 : ab_Q := (34, 1, ([(0, av_k 35)], [], [], [], [], [], 0, 0), [(2199023255552, 4), (2199023255552, 6)], [([], [], [], [], [(av_k 35, av_c 4, av_c 0)], [], 0, 0)])  -- X2_clear
def nu_1 : List ab_CU := []
def nq_2 : ab_Q := (132, 4, ([(0, av_k 0), (1, av_s 0), (2, av_s 1)], [], [.inl (0, 11, 0), .inl (0, 11, 0), .inl (0, 19, 0)], [], [(av_k 35, av_c 4, av_s 2)], [], 0, 0), [(3255653929845760, (-2)), (1205614499856896, 1), (2199023255552, 4), (2199023255552, 6)], [([], [av_s 3], [.inl (0, 11, 0), .inl (0, 11, 0), .inl (0, 19, 0), .inl (1, 20, 0)], [(2, 3, (-1)), (3, 2, 1)], [(av_k 35, av_c 4, av_s 3)], [], 0, 0)])  -- X10_line
def nu_2 : List ab_CU := []
def nq_3 : ab_Q := (132, 4, ([(0, av_k 0), (1, av_s 0), (2, av_s 1)], [], [.inl (0, 11, 0), .inl (0, 11, 0)], [], [(av_k 35, av_c 4, av_c 20)], [], 0, 0), [], [([], [av_c (-104)], [.inl (0, 11, 0), .inl (0, 11, 0)], [], [], [], 0, 0)])  -- X10_line
def nu_3 : List ab_CU := []
def nq_4 : ab_Q := (132, 4, ([(0, av_k 0), (1, av_s 0), (2, av_s 1)], [], [.inl ((-2147483648), (-1), 0), .inl ((-2147483648), 2147483647, 0)], [], [], [], 0, 0), [], [([], [av_c (-101)], [.inl ((-2147483648), (-1), 0), .inl ((-2147483648), 2147483647, 0)], [], [], [], 0, 0)])  -- X10_line
def nu_4 : List ab_CU := []
def nq_5 : ab_Q := (132, 4, ([(0, av_k 0), (1, av_s 0), (2, av_s 1)], [], [.inl (12, 2147483647, 0), .inl ((-2147483648), 2147483647, 0)], [], [], [], 0, 0), [], [([], [av_c (-101)], [.inl (12, 2147483647, 0), .inl ((-2147483648), 2147483647, 0)], [], [], [], 0, 0)])  -- X10_line
def nu_5 : List ab_CU := []
def nq_6 : ab_Q := (132, 4, ([(0, av_k 0), (1, av_s 0), (2, av_s 1)], [], [.inl (0, 11, 0), .inl ((-2147483648), (-1), 0)], [], [], [], 0, 0), [], [([], [av_c (-101)], [.inl (0, 11, 0), .inl ((-2147483648), (-1), 0)], [], [], [], 0, 0)])  -- X10_line
def nu_6 : List ab_CU := []
def nq_7 : ab_Q := (132, 4, ([(0, av_k 0), (1, av_s 0), (2, av_s 1)], [], [.inl (0, 11, 0), .inl (12, 2147483647, 0)], [], [], [], 0, 0), [], [([], [av_c (-101)], [.inl (0, 11, 0), .inl (12, 2147483647, 0)], [], [], [], 0, 0)])  -- X10_line
def nu_7 : List ab_CU := []
def nq_8 : ab_Q := (220, 3, ([(0, av_k 542), (1, av_s 0), (2, av_s 1)], [], [.inl (0, 11, 0), .inl (0, 11, 0), .inl (0, 19, 0)], [], [(av_k 542, av_c 20, av_s 2)], [], 0, 0), [(885443715538058477568, (-2)), (4503599627370496, 20)], [([], [av_s 3], [.inl (0, 11, 0), .inl (0, 11, 0), .inl (0, 19, 0), .inl (1, 20, 0)], [(2, 3, (-1)), (3, 2, 1)], [(av_k 542, av_c 20, av_s 3)], [], 0, 0)])  -- X11_line
def nu_8 : List ab_CU := []
def nq_9 : ab_Q := (220, 3, ([(0, av_k 542), (1, av_s 0), (2, av_s 1)], [], [.inl (0, 11, 0), .inl (0, 11, 0)], [], [(av_k 542, av_c 20, av_c 20)], [], 0, 0), [], [([], [av_c (-104)], [.inl (0, 11, 0), .inl (0, 11, 0)], [], [], [], 0, 0)])  -- X11_line
def nu_9 : List ab_CU := []
def nq_10 : ab_Q := (220, 3, ([(0, av_k 542), (1, av_s 0), (2, av_s 1)], [], [.inl ((-2147483648), (-1), 0), .inl ((-2147483648), 2147483647, 0)], [], [], [], 0, 0), [], [([], [av_c (-101)], [.inl ((-2147483648), (-1), 0), .inl ((-2147483648), 2147483647, 0)], [], [], [], 0, 0)])  -- X11_line
def nu_10 : List ab_CU := []
def nq_11 : ab_Q := (220, 3, ([(0, av_k 542), (1, av_s 0), (2, av_s 1)], [], [.inl (12, 2147483647, 0), .inl ((-2147483648), 2147483647, 0)], [], [], [], 0, 0), [], [([], [av_c (-101)], [.inl (12, 2147483647, 0), .inl ((-2147483648), 2147483647, 0)], [], [], [], 0, 0)])  -- X11_line
def nu_11 : List ab_CU := []
def nq_12 : ab_Q := (220, 3, ([(0, av_k 542), (1, av_s 0), (2, av_s 1)], [], [.inl (0, 11, 0), .inl ((-2147483648), (-1), 0)], [], [], [], 0, 0), [], [([], [av_c (-101)], [.inl (0, 11, 0), .inl ((-2147483648), (-1), 0)], [], [], [], 0, 0)])  -- X11_line
def nu_12 : List ab_CU := []
def nq_13 : ab_Q := (220, 3, ([(0, av_k 542), (1, av_s 0), (2, av_s 1)], [], [.inl (0, 11, 0), .inl (12, 2147483647, 0)], [], [], [], 0, 0), [], [([], [av_c (-101)], [.inl (0, 11, 0), .inl (12, 2147483647, 0)], [], [], [], 0, 0)])  -- X11_line
def nu_13 : List ab_CU := []
def nq_14 : ab_Q := (133, 2, ([(0, av_k 0)], [], [.inl (0, 20, 0)], [], [(av_k 35, av_c 4, av_s 0)], [], 0, 0), [(2199023255552, 4), (2199023255552, 6)], [([], [av_s 0], [.inl (0, 20, 0)], [], [(av_k 35, av_c 4, av_c 0)], [], 0, 0)])  -- X10_tear
def nu_14 : List ab_CU := []
def nq_15 : ab_Q := (222, 1, ([(0, av_k 542)], [], [.inl (0, 20, 0)], [], [(av_k 542, av_c 20, av_s 0)], [], 0, 0), [(4503599627370496, 20)], [([], [av_s 0], [.inl (0, 20, 0)], [], [(av_k 542, av_c 20, av_c 0)], [], 0, 0)])  -- X11_tear
def nu_15 : List ab_CU := []
def nq_16 : ab_Q := (129, 6, ([(0, av_k 0), (1, av_c 0), (2, av_s 0)], [], [.inl (0, 11, 0), .inl (0, 29, 0), .inl (0, 30, 0), .inl (0, 30, 0), .inl (0, 30, 0), .inl (0, 30, 0), .inl (0, 30, 0)], [], [(av_k 34, av_c 0, av_k 170), (av_k 170, av_c 1, av_s 1), (av_k 232, av_c 1, av_s 2), (av_k 294, av_c 1, av_s 3), (av_k 356, av_c 1, av_s 4), (av_k 418, av_c 1, av_s 5), (av_k 480, av_c 1, av_s 6)], [], 0, 0), [(2411228999713792, (-2)), (1205751938810368, 1), (137438953472, 2)], [([], [av_s 7], [.inl (0, 11, 0), .inl (0, 29, 0), .inl (0, 30, 0), .inl (0, 30, 0), .inl (0, 30, 0), .inl (0, 30, 0), .inl (0, 30, 0), .inl (1, 30, 0)], [(1, 7, (-1)), (7, 1, 1)], [(av_k 170, av_c 1, av_s 7), (av_k 232, av_c 1, av_s 2), (av_k 294, av_c 1, av_s 3), (av_k 356, av_c 1, av_s 4), (av_k 418, av_c 1, av_s 5), (av_k 480, av_c 1, av_s 6)], [], 0, 0)])  -- X10_note
def nu_16 : List ab_CU := []
def nq_17 : ab_Q := (129, 6, ([(0, av_k 0), (1, av_c 0), (2, av_s 0)], [], [.inl (0, 11, 0)], [], [(av_k 34, av_c 0, av_k 170), (av_k 170, av_c 1, av_c 30)], [], 0, 0), [], [([], [av_c (-104)], [.inl (0, 11, 0)], [], [], [], 0, 0)])  -- X10_note
def nu_17 : List ab_CU := []
def nq_18 : ab_Q := (129, 6, ([(0, av_k 0), (1, av_c 1), (2, av_s 0)], [], [.inl (0, 11, 0), .inl (0, 30, 0), .inl (0, 29, 0), .inl (0, 30, 0), .inl (0, 30, 0), .inl (0, 30, 0), .inl (0, 30, 0)], [], [(av_k 34, av_c 1, av_k 232), (av_k 170, av_c 1, av_s 1), (av_k 232, av_c 1, av_s 2), (av_k 294, av_c 1, av_s 3), (av_k 356, av_c 1, av_s 4), (av_k 418, av_c 1, av_s 5), (av_k 480, av_c 1, av_s 6)], [], 0, 0), [(2411228999713792, (-2)), (1205751938810368, 1), (137438953472, 2)], [([], [av_s 7], [.inl (0, 11, 0), .inl (0, 30, 0), .inl (0, 29, 0), .inl (0, 30, 0), .inl (0, 30, 0), .inl (0, 30, 0), .inl (0, 30, 0), .inl (1, 30, 0)], [(2, 7, (-1)), (7, 2, 1)], [(av_k 170, av_c 1, av_s 1), (av_k 232, av_c 1, av_s 7), (av_k 294, av_c 1, av_s 3), (av_k 356, av_c 1, av_s 4), (av_k 418, av_c 1, av_s 5), (av_k 480, av_c 1, av_s 6)], [], 0, 0)])  -- X10_note
def nu_18 : List ab_CU := []
def nq_19 : ab_Q := (129, 6, ([(0, av_k 0), (1, av_c 1), (2, av_s 0)], [], [.inl (0, 11, 0)], [], [(av_k 34, av_c 1, av_k 232), (av_k 232, av_c 1, av_c 30)], [], 0, 0), [], [([], [av_c (-104)], [.inl (0, 11, 0)], [], [], [], 0, 0)])  -- X10_note
def nu_19 : List ab_CU := []
def nq_20 : ab_Q := (129, 6, ([(0, av_k 0), (1, av_c 2), (2, av_s 0)], [], [.inl (0, 11, 0), .inl (0, 30, 0), .inl (0, 30, 0), .inl (0, 29, 0), .inl (0, 30, 0), .inl (0, 30, 0), .inl (0, 30, 0)], [], [(av_k 34, av_c 2, av_k 294), (av_k 170, av_c 1, av_s 1), (av_k 232, av_c 1, av_s 2), (av_k 294, av_c 1, av_s 3), (av_k 356, av_c 1, av_s 4), (av_k 418, av_c 1, av_s 5), (av_k 480, av_c 1, av_s 6)], [], 0, 0), [(2411228999713792, (-2)), (1205751938810368, 1), (137438953472, 2)], [([], [av_s 7], [.inl (0, 11, 0), .inl (0, 30, 0), .inl (0, 30, 0), .inl (0, 29, 0), .inl (0, 30, 0), .inl (0, 30, 0), .inl (0, 30, 0), .inl (1, 30, 0)], [(3, 7, (-1)), (7, 3, 1)], [(av_k 170, av_c 1, av_s 1), (av_k 232, av_c 1, av_s 2), (av_k 294, av_c 1, av_s 7), (av_k 356, av_c 1, av_s 4), (av_k 418, av_c 1, av_s 5), (av_k 480, av_c 1, av_s 6)], [], 0, 0)])  -- X10_note
def nu_20 : List ab_CU := []
def nq_21 : ab_Q := (129, 6, ([(0, av_k 0), (1, av_c 2), (2, av_s 0)], [], [.inl (0, 11, 0)], [], [(av_k 34, av_c 2, av_k 294), (av_k 294, av_c 1, av_c 30)], [], 0, 0), [], [([], [av_c (-104)], [.inl (0, 11, 0)], [], [], [], 0, 0)])  -- X10_note
def nu_21 : List ab_CU := []
def nq_22 : ab_Q := (129, 6, ([(0, av_k 0), (1, av_c 3), (2, av_s 0)], [], [.inl (0, 11, 0), .inl (0, 30, 0), .inl (0, 30, 0), .inl (0, 30, 0), .inl (0, 29, 0), .inl (0, 30, 0), .inl (0, 30, 0)], [], [(av_k 34, av_c 3, av_k 356), (av_k 170, av_c 1, av_s 1), (av_k 232, av_c 1, av_s 2), (av_k 294, av_c 1, av_s 3), (av_k 356, av_c 1, av_s 4), (av_k 418, av_c 1, av_s 5), (av_k 480, av_c 1, av_s 6)], [], 0, 0), [(2411228999713792, (-2)), (1205751938810368, 1), (137438953472, 2)], [([], [av_s 7], [.inl (0, 11, 0), .inl (0, 30, 0), .inl (0, 30, 0), .inl (0, 30, 0), .inl (0, 29, 0), .inl (0, 30, 0), .inl (0, 30, 0), .inl (1, 30, 0)], [(4, 7, (-1)), (7, 4, 1)], [(av_k 170, av_c 1, av_s 1), (av_k 232, av_c 1, av_s 2), (av_k 294, av_c 1, av_s 3), (av_k 356, av_c 1, av_s 7), (av_k 418, av_c 1, av_s 5), (av_k 480, av_c 1, av_s 6)], [], 0, 0)])  -- X10_note
def nu_22 : List ab_CU := []
def nq_23 : ab_Q := (129, 6, ([(0, av_k 0), (1, av_c 3), (2, av_s 0)], [], [.inl (0, 11, 0)], [], [(av_k 34, av_c 3, av_k 356), (av_k 356, av_c 1, av_c 30)], [], 0, 0), [], [([], [av_c (-104)], [.inl (0, 11, 0)], [], [], [], 0, 0)])  -- X10_note
def nu_23 : List ab_CU := []
def nq_24 : ab_Q := (129, 6, ([(0, av_k 0), (1, av_c 4), (2, av_s 0)], [], [.inl (0, 11, 0), .inl (0, 30, 0), .inl (0, 30, 0), .inl (0, 30, 0), .inl (0, 30, 0), .inl (0, 29, 0), .inl (0, 30, 0)], [], [(av_k 34, av_c 4, av_k 418), (av_k 170, av_c 1, av_s 1), (av_k 232, av_c 1, av_s 2), (av_k 294, av_c 1, av_s 3), (av_k 356, av_c 1, av_s 4), (av_k 418, av_c 1, av_s 5), (av_k 480, av_c 1, av_s 6)], [], 0, 0), [(2411228999713792, (-2)), (1205751938810368, 1), (137438953472, 2)], [([], [av_s 7], [.inl (0, 11, 0), .inl (0, 30, 0), .inl (0, 30, 0), .inl (0, 30, 0), .inl (0, 30, 0), .inl (0, 29, 0), .inl (0, 30, 0), .inl (1, 30, 0)], [(5, 7, (-1)), (7, 5, 1)], [(av_k 170, av_c 1, av_s 1), (av_k 232, av_c 1, av_s 2), (av_k 294, av_c 1, av_s 3), (av_k 356, av_c 1, av_s 4), (av_k 418, av_c 1, av_s 7), (av_k 480, av_c 1, av_s 6)], [], 0, 0)])  -- X10_note
def nu_24 : List ab_CU := []
def nq_25 : ab_Q := (129, 6, ([(0, av_k 0), (1, av_c 4), (2, av_s 0)], [], [.inl (0, 11, 0)], [], [(av_k 34, av_c 4, av_k 418), (av_k 418, av_c 1, av_c 30)], [], 0, 0), [], [([], [av_c (-104)], [.inl (0, 11, 0)], [], [], [], 0, 0)])  -- X10_note
def nu_25 : List ab_CU := []
def nq_26 : ab_Q := (129, 6, ([(0, av_k 0), (1, av_c 5), (2, av_s 0)], [], [.inl (0, 11, 0), .inl (0, 30, 0), .inl (0, 30, 0), .inl (0, 30, 0), .inl (0, 30, 0), .inl (0, 30, 0), .inl (0, 29, 0)], [], [(av_k 34, av_c 5, av_k 480), (av_k 170, av_c 1, av_s 1), (av_k 232, av_c 1, av_s 2), (av_k 294, av_c 1, av_s 3), (av_k 356, av_c 1, av_s 4), (av_k 418, av_c 1, av_s 5), (av_k 480, av_c 1, av_s 6)], [], 0, 0), [(2411228999713792, (-2)), (1205751938810368, 1), (137438953472, 2)], [([], [av_s 7], [.inl (0, 11, 0), .inl (0, 30, 0), .inl (0, 30, 0), .inl (0, 30, 0), .inl (0, 30, 0), .inl (0, 30, 0), .inl (0, 29, 0), .inl (1, 30, 0)], [(6, 7, (-1)), (7, 6, 1)], [(av_k 170, av_c 1, av_s 1), (av_k 232, av_c 1, av_s 2), (av_k 294, av_c 1, av_s 3), (av_k 356, av_c 1, av_s 4), (av_k 418, av_c 1, av_s 5), (av_k 480, av_c 1, av_s 7)], [], 0, 0)])  -- X10_note
def nu_26 : List ab_CU := []
def nq_27 : ab_Q := (129, 6, ([(0, av_k 0), (1, av_c 5), (2, av_s 0)], [], [.inl (0, 11, 0)], [], [(av_k 34, av_c 5, av_k 480), (av_k 480, av_c 1, av_c 30)], [], 0, 0), [], [([], [av_c (-104)], [.inl (0, 11, 0)], [], [], [], 0, 0)])  -- X10_note
def nu_27 : List ab_CU := []
def nq_28 : ab_Q := (129, 6, ([(0, av_k 0), (1, av_s 0), (2, av_s 1)], [], [.inl ((-2147483648), (-1), 0), .inl ((-2147483648), 2147483647, 0)], [], [], [], 0, 0), [], [([], [av_c (-101)], [.inl ((-2147483648), (-1), 0), .inl ((-2147483648), 2147483647, 0)], [], [], [], 0, 0)])  -- X10_note
def nu_28 : List ab_CU := []
def nq_29 : ab_Q := (129, 6, ([(0, av_k 0), (1, av_s 0), (2, av_s 1)], [], [.inl (6, 2147483647, 0), .inl ((-2147483648), 2147483647, 0)], [], [], [], 0, 0), [], [([], [av_c (-101)], [.inl (6, 2147483647, 0), .inl ((-2147483648), 2147483647, 0)], [], [], [], 0, 0)])  -- X10_note
def nu_29 : List ab_CU := []
def nq_30 : ab_Q := (129, 6, ([(0, av_k 0), (1, av_s 0), (2, av_s 1)], [], [.inl (0, 5, 0), .inl ((-2147483648), (-1), 0)], [], [], [], 0, 0), [], [([], [av_c (-101)], [.inl (0, 5, 0), .inl ((-2147483648), (-1), 0)], [], [], [], 0, 0)])  -- X10_note
def nu_30 : List ab_CU := []
def nq_31 : ab_Q := (129, 6, ([(0, av_k 0), (1, av_s 0), (2, av_s 1)], [], [.inl (0, 5, 0), .inl (12, 2147483647, 0)], [], [], [], 0, 0), [], [([], [av_c (-101)], [.inl (0, 5, 0), .inl (12, 2147483647, 0)], [], [], [], 0, 0)])  -- X10_note
def nu_31 : List ab_CU := []
def nq_32 : ab_Q := (216, 3, ([(0, av_k 542), (1, av_c 0), (2, av_s 0)], [], [.inl (0, 11, 0), .inl (0, 29, 0), .inl (0, 30, 0), .inl (0, 30, 0), .inl (0, 30, 0), .inl (0, 30, 0), .inl (0, 30, 0)], [], [(av_k 555, av_c 0, av_s 1), (av_k 555, av_c 1, av_s 2), (av_k 555, av_c 2, av_s 3), (av_k 555, av_c 3, av_s 4), (av_k 555, av_c 4, av_s 5), (av_k 555, av_c 5, av_s 6)], [], 0, 0), [(258254417031933722624, (-2))], [([], [av_s 7], [.inl (0, 11, 0), .inl (0, 29, 0), .inl (0, 30, 0), .inl (0, 30, 0), .inl (0, 30, 0), .inl (0, 30, 0), .inl (0, 30, 0), .inl (1, 30, 0)], [(1, 7, (-1)), (7, 1, 1)], [(av_k 555, av_c 0, av_s 7), (av_k 555, av_c 1, av_s 2), (av_k 555, av_c 2, av_s 3), (av_k 555, av_c 3, av_s 4), (av_k 555, av_c 4, av_s 5), (av_k 555, av_c 5, av_s 6)], [], 0, 0)])  -- X11_note
def nu_32 : List ab_CU := [(58, ([(0, av_k 542), (1, av_c 0), (2, av_s 0), (3, av_s 1), (4, av_s 7)], [], [.inl (0, 11, 0), .inl (0, 29, 0), .inl (0, 30, 0), .inl (0, 30, 0), .inl (0, 30, 0), .inl (0, 30, 0), .inl (0, 30, 0), .inl (0, 24, 0), .inl (0, 24, 0)], [(7, 8, 0)], [(av_k 556, av_s 1, av_s 8), (av_k 549, av_s 0, av_s 8), (av_k 542, av_c 8, av_k 549), (av_k 542, av_c 18, av_k 556), (av_k 555, av_c 0, av_s 1), (av_k 555, av_c 1, av_s 2), (av_k 555, av_c 2, av_s 3), (av_k 555, av_c 3, av_s 4), (av_k 555, av_c 4, av_s 5), (av_k 555, av_c 5, av_s 6), (av_k 542, av_c 17, av_k 555)], [], 0, 0), [(av_c 967, av_c 0), (av_c 24, av_s 7), (av_c 967, av_c 0)])]
def nq_33 : ab_Q := (216, 3, ([(0, av_k 542), (1, av_c 0), (2, av_s 0)], [], [.inl (0, 11, 0)], [], [(av_k 555, av_c 0, av_c 30)], [], 0, 0), [], [([], [av_c (-104)], [.inl (0, 11, 0)], [], [], [], 0, 0)])  -- X11_note
def nu_33 : List ab_CU := []
def nq_34 : ab_Q := (216, 3, ([(0, av_k 542), (1, av_c 1), (2, av_s 0)], [], [.inl (0, 11, 0), .inl (0, 30, 0), .inl (0, 29, 0), .inl (0, 30, 0), .inl (0, 30, 0), .inl (0, 30, 0), .inl (0, 30, 0)], [], [(av_k 555, av_c 0, av_s 1), (av_k 555, av_c 1, av_s 2), (av_k 555, av_c 2, av_s 3), (av_k 555, av_c 3, av_s 4), (av_k 555, av_c 4, av_s 5), (av_k 555, av_c 5, av_s 6)], [], 0, 0), [(258254417031933722624, (-2))], [([], [av_s 7], [.inl (0, 11, 0), .inl (0, 30, 0), .inl (0, 29, 0), .inl (0, 30, 0), .inl (0, 30, 0), .inl (0, 30, 0), .inl (0, 30, 0), .inl (1, 30, 0)], [(2, 7, (-1)), (7, 2, 1)], [(av_k 555, av_c 0, av_s 1), (av_k 555, av_c 1, av_s 7), (av_k 555, av_c 2, av_s 3), (av_k 555, av_c 3, av_s 4), (av_k 555, av_c 4, av_s 5), (av_k 555, av_c 5, av_s 6)], [], 0, 0)])  -- X11_note
def nu_34 : List ab_CU := [(58, ([(0, av_k 542), (1, av_c 1), (2, av_s 0), (3, av_s 7), (4, av_s 8)], [], [.inl (0, 11, 0), .inl (0, 30, 0), .inl (0, 29, 0), .inl (0, 30, 0), .inl (0, 30, 0), .inl (0, 30, 0), .inl (0, 30, 0), .inl (30, 59, 0), .inl (0, 24, 0), .inl (0, 24, 0)], [(7, 2, 30), (2, 7, (-30)), (8, 9, 0)], [(av_k 556, av_s 7, av_s 9), (av_k 549, av_s 0, av_s 9), (av_k 542, av_c 8, av_k 549), (av_k 542, av_c 18, av_k 556), (av_k 555, av_c 0, av_s 1), (av_k 555, av_c 1, av_s 2), (av_k 555, av_c 2, av_s 3), (av_k 555, av_c 3, av_s 4), (av_k 555, av_c 4, av_s 5), (av_k 555, av_c 5, av_s 6), (av_k 542, av_c 17, av_k 555)], [], 0, 0), [(av_c 967, av_c 0), (av_c 24, av_s 8), (av_c 967, av_c 0)])]
def nq_35 : ab_Q := (216, 3, ([(0, av_k 542), (1, av_c 1), (2, av_s 0)], [], [.inl (0, 11, 0)], [], [(av_k 555, av_c 1, av_c 30)], [], 0, 0), [], [([], [av_c (-104)], [.inl (0, 11, 0)], [], [], [], 0, 0)])  -- X11_note
def nu_35 : List ab_CU := []
def nq_36 : ab_Q := (216, 3, ([(0, av_k 542), (1, av_c 2), (2, av_s 0)], [], [.inl (0, 11, 0), .inl (0, 30, 0), .inl (0, 30, 0), .inl (0, 29, 0), .inl (0, 30, 0), .inl (0, 30, 0), .inl (0, 30, 0)], [], [(av_k 555, av_c 0, av_s 1), (av_k 555, av_c 1, av_s 2), (av_k 555, av_c 2, av_s 3), (av_k 555, av_c 3, av_s 4), (av_k 555, av_c 4, av_s 5), (av_k 555, av_c 5, av_s 6)], [], 0, 0), [(258254417031933722624, (-2))], [([], [av_s 7], [.inl (0, 11, 0), .inl (0, 30, 0), .inl (0, 30, 0), .inl (0, 29, 0), .inl (0, 30, 0), .inl (0, 30, 0), .inl (0, 30, 0), .inl (1, 30, 0)], [(3, 7, (-1)), (7, 3, 1)], [(av_k 555, av_c 0, av_s 1), (av_k 555, av_c 1, av_s 2), (av_k 555, av_c 2, av_s 7), (av_k 555, av_c 3, av_s 4), (av_k 555, av_c 4, av_s 5), (av_k 555, av_c 5, av_s 6)], [], 0, 0)])  -- X11_note
def nu_36 : List ab_CU := [(58, ([(0, av_k 542), (1, av_c 2), (2, av_s 0), (3, av_s 7), (4, av_s 8)], [], [.inl (0, 11, 0), .inl (0, 30, 0), .inl (0, 30, 0), .inl (0, 29, 0), .inl (0, 30, 0), .inl (0, 30, 0), .inl (0, 30, 0), .inl (60, 89, 0), .inl (0, 24, 0), .inl (0, 24, 0)], [(7, 3, 60), (3, 7, (-60)), (8, 9, 0)], [(av_k 556, av_s 7, av_s 9), (av_k 549, av_s 0, av_s 9), (av_k 542, av_c 8, av_k 549), (av_k 542, av_c 18, av_k 556), (av_k 555, av_c 0, av_s 1), (av_k 555, av_c 1, av_s 2), (av_k 555, av_c 2, av_s 3), (av_k 555, av_c 3, av_s 4), (av_k 555, av_c 4, av_s 5), (av_k 555, av_c 5, av_s 6), (av_k 542, av_c 17, av_k 555)], [], 0, 0), [(av_c 967, av_c 0), (av_c 24, av_s 8), (av_c 967, av_c 0)])]
def nq_37 : ab_Q := (216, 3, ([(0, av_k 542), (1, av_c 2), (2, av_s 0)], [], [.inl (0, 11, 0)], [], [(av_k 555, av_c 2, av_c 30)], [], 0, 0), [], [([], [av_c (-104)], [.inl (0, 11, 0)], [], [], [], 0, 0)])  -- X11_note
def nu_37 : List ab_CU := []
def nq_38 : ab_Q := (216, 3, ([(0, av_k 542), (1, av_c 3), (2, av_s 0)], [], [.inl (0, 11, 0), .inl (0, 30, 0), .inl (0, 30, 0), .inl (0, 30, 0), .inl (0, 29, 0), .inl (0, 30, 0), .inl (0, 30, 0)], [], [(av_k 555, av_c 0, av_s 1), (av_k 555, av_c 1, av_s 2), (av_k 555, av_c 2, av_s 3), (av_k 555, av_c 3, av_s 4), (av_k 555, av_c 4, av_s 5), (av_k 555, av_c 5, av_s 6)], [], 0, 0), [(258254417031933722624, (-2))], [([], [av_s 7], [.inl (0, 11, 0), .inl (0, 30, 0), .inl (0, 30, 0), .inl (0, 30, 0), .inl (0, 29, 0), .inl (0, 30, 0), .inl (0, 30, 0), .inl (1, 30, 0)], [(4, 7, (-1)), (7, 4, 1)], [(av_k 555, av_c 0, av_s 1), (av_k 555, av_c 1, av_s 2), (av_k 555, av_c 2, av_s 3), (av_k 555, av_c 3, av_s 7), (av_k 555, av_c 4, av_s 5), (av_k 555, av_c 5, av_s 6)], [], 0, 0)])  -- X11_note
def nu_38 : List ab_CU := [(58, ([(0, av_k 542), (1, av_c 3), (2, av_s 0), (3, av_s 7), (4, av_s 8)], [], [.inl (0, 11, 0), .inl (0, 30, 0), .inl (0, 30, 0), .inl (0, 30, 0), .inl (0, 29, 0), .inl (0, 30, 0), .inl (0, 30, 0), .inl (90, 119, 0), .inl (0, 24, 0), .inl (0, 24, 0)], [(7, 4, 90), (4, 7, (-90)), (8, 9, 0)], [(av_k 556, av_s 7, av_s 9), (av_k 549, av_s 0, av_s 9), (av_k 542, av_c 8, av_k 549), (av_k 542, av_c 18, av_k 556), (av_k 555, av_c 0, av_s 1), (av_k 555, av_c 1, av_s 2), (av_k 555, av_c 2, av_s 3), (av_k 555, av_c 3, av_s 4), (av_k 555, av_c 4, av_s 5), (av_k 555, av_c 5, av_s 6), (av_k 542, av_c 17, av_k 555)], [], 0, 0), [(av_c 967, av_c 0), (av_c 24, av_s 8), (av_c 967, av_c 0)])]
def nq_39 : ab_Q := (216, 3, ([(0, av_k 542), (1, av_c 3), (2, av_s 0)], [], [.inl (0, 11, 0)], [], [(av_k 555, av_c 3, av_c 30)], [], 0, 0), [], [([], [av_c (-104)], [.inl (0, 11, 0)], [], [], [], 0, 0)])  -- X11_note
def nu_39 : List ab_CU := []
def nq_40 : ab_Q := (216, 3, ([(0, av_k 542), (1, av_c 4), (2, av_s 0)], [], [.inl (0, 11, 0), .inl (0, 30, 0), .inl (0, 30, 0), .inl (0, 30, 0), .inl (0, 30, 0), .inl (0, 29, 0), .inl (0, 30, 0)], [], [(av_k 555, av_c 0, av_s 1), (av_k 555, av_c 1, av_s 2), (av_k 555, av_c 2, av_s 3), (av_k 555, av_c 3, av_s 4), (av_k 555, av_c 4, av_s 5), (av_k 555, av_c 5, av_s 6)], [], 0, 0), [(258254417031933722624, (-2))], [([], [av_s 7], [.inl (0, 11, 0), .inl (0, 30, 0), .inl (0, 30, 0), .inl (0, 30, 0), .inl (0, 30, 0), .inl (0, 29, 0), .inl (0, 30, 0), .inl (1, 30, 0)], [(5, 7, (-1)), (7, 5, 1)], [(av_k 555, av_c 0, av_s 1), (av_k 555, av_c 1, av_s 2), (av_k 555, av_c 2, av_s 3), (av_k 555, av_c 3, av_s 4), (av_k 555, av_c 4, av_s 7), (av_k 555, av_c 5, av_s 6)], [], 0, 0)])  -- X11_note
def nu_40 : List ab_CU := [(58, ([(0, av_k 542), (1, av_c 4), (2, av_s 0), (3, av_s 7), (4, av_s 8)], [], [.inl (0, 11, 0), .inl (0, 30, 0), .inl (0, 30, 0), .inl (0, 30, 0), .inl (0, 30, 0), .inl (0, 29, 0), .inl (0, 30, 0), .inl (120, 149, 0), .inl (0, 24, 0), .inl (0, 24, 0)], [(7, 5, 120), (5, 7, (-120)), (8, 9, 0)], [(av_k 556, av_s 7, av_s 9), (av_k 549, av_s 0, av_s 9), (av_k 542, av_c 8, av_k 549), (av_k 542, av_c 18, av_k 556), (av_k 555, av_c 0, av_s 1), (av_k 555, av_c 1, av_s 2), (av_k 555, av_c 2, av_s 3), (av_k 555, av_c 3, av_s 4), (av_k 555, av_c 4, av_s 5), (av_k 555, av_c 5, av_s 6), (av_k 542, av_c 17, av_k 555)], [], 0, 0), [(av_c 967, av_c 0), (av_c 24, av_s 8), (av_c 967, av_c 0)])]
def nq_41 : ab_Q := (216, 3, ([(0, av_k 542), (1, av_c 4), (2, av_s 0)], [], [.inl (0, 11, 0)], [], [(av_k 555, av_c 4, av_c 30)], [], 0, 0), [], [([], [av_c (-104)], [.inl (0, 11, 0)], [], [], [], 0, 0)])  -- X11_note
def nu_41 : List ab_CU := []
def nq_42 : ab_Q := (216, 3, ([(0, av_k 542), (1, av_c 5), (2, av_s 0)], [], [.inl (0, 11, 0), .inl (0, 30, 0), .inl (0, 30, 0), .inl (0, 30, 0), .inl (0, 30, 0), .inl (0, 30, 0), .inl (0, 29, 0)], [], [(av_k 555, av_c 0, av_s 1), (av_k 555, av_c 1, av_s 2), (av_k 555, av_c 2, av_s 3), (av_k 555, av_c 3, av_s 4), (av_k 555, av_c 4, av_s 5), (av_k 555, av_c 5, av_s 6)], [], 0, 0), [(258254417031933722624, (-2))], [([], [av_s 7], [.inl (0, 11, 0), .inl (0, 30, 0), .inl (0, 30, 0), .inl (0, 30, 0), .inl (0, 30, 0), .inl (0, 30, 0), .inl (0, 29, 0), .inl (1, 30, 0)], [(6, 7, (-1)), (7, 6, 1)], [(av_k 555, av_c 0, av_s 1), (av_k 555, av_c 1, av_s 2), (av_k 555, av_c 2, av_s 3), (av_k 555, av_c 3, av_s 4), (av_k 555, av_c 4, av_s 5), (av_k 555, av_c 5, av_s 7)], [], 0, 0)])  -- X11_note
def nu_42 : List ab_CU := [(58, ([(0, av_k 542), (1, av_c 5), (2, av_s 0), (3, av_s 7), (4, av_s 8)], [], [.inl (0, 11, 0), .inl (0, 30, 0), .inl (0, 30, 0), .inl (0, 30, 0), .inl (0, 30, 0), .inl (0, 30, 0), .inl (0, 29, 0), .inl (150, 179, 0), .inl (0, 24, 0), .inl (0, 24, 0)], [(7, 6, 150), (6, 7, (-150)), (8, 9, 0)], [(av_k 556, av_s 7, av_s 9), (av_k 549, av_s 0, av_s 9), (av_k 542, av_c 8, av_k 549), (av_k 542, av_c 18, av_k 556), (av_k 555, av_c 0, av_s 1), (av_k 555, av_c 1, av_s 2), (av_k 555, av_c 2, av_s 3), (av_k 555, av_c 3, av_s 4), (av_k 555, av_c 4, av_s 5), (av_k 555, av_c 5, av_s 6), (av_k 542, av_c 17, av_k 555)], [], 0, 0), [(av_c 967, av_c 0), (av_c 24, av_s 8), (av_c 967, av_c 0)])]
def nq_43 : ab_Q := (216, 3, ([(0, av_k 542), (1, av_c 5), (2, av_s 0)], [], [.inl (0, 11, 0)], [], [(av_k 555, av_c 5, av_c 30)], [], 0, 0), [], [([], [av_c (-104)], [.inl (0, 11, 0)], [], [], [], 0, 0)])  -- X11_note
def nu_43 : List ab_CU := []
def nq_44 : ab_Q := (216, 3, ([(0, av_k 542), (1, av_s 0), (2, av_s 1)], [], [.inl ((-2147483648), (-1), 0), .inl ((-2147483648), 2147483647, 0)], [], [], [], 0, 0), [], [([], [av_c (-101)], [.inl ((-2147483648), (-1), 0), .inl ((-2147483648), 2147483647, 0)], [], [], [], 0, 0)])  -- X11_note
def nu_44 : List ab_CU := []
def nq_45 : ab_Q := (216, 3, ([(0, av_k 542), (1, av_s 0), (2, av_s 1)], [], [.inl (6, 2147483647, 0), .inl ((-2147483648), 2147483647, 0)], [], [], [], 0, 0), [], [([], [av_c (-101)], [.inl (6, 2147483647, 0), .inl ((-2147483648), 2147483647, 0)], [], [], [], 0, 0)])  -- X11_note
def nu_45 : List ab_CU := []
def nq_46 : ab_Q := (216, 3, ([(0, av_k 542), (1, av_s 0), (2, av_s 1)], [], [.inl (0, 5, 0), .inl ((-2147483648), (-1), 0)], [], [], [], 0, 0), [], [([], [av_c (-101)], [.inl (0, 5, 0), .inl ((-2147483648), (-1), 0)], [], [], [], 0, 0)])  -- X11_note
def nu_46 : List ab_CU := []
def nq_47 : ab_Q := (216, 3, ([(0, av_k 542), (1, av_s 0), (2, av_s 1)], [], [.inl (0, 5, 0), .inl (12, 2147483647, 0)], [], [], [], 0, 0), [], [([], [av_c (-101)], [.inl (0, 5, 0), .inl (12, 2147483647, 0)], [], [], [], 0, 0)])  -- X11_note
def nu_47 : List ab_CU := []
def n_cs : List ab_Q := cs_all ++ [nq_0, nq_1, nq_2, nq_3, nq_4, nq_5, nq_6, nq_7, nq_8, nq_9, nq_10, nq_11, nq_12, nq_13, nq_14, nq_15, nq_16, nq_17, nq_18, nq_19, nq_20, nq_21, nq_22, nq_23, nq_24, nq_25, nq_26, nq_27, nq_28, nq_29, nq_30, nq_31, nq_32, nq_33, nq_34, nq_35, nq_36, nq_37, nq_38, nq_39, nq_40, nq_41, nq_42, nq_43, nq_44, nq_45, nq_46, nq_47]
def n_cd : List (List Nat) := (cs_cd.set 33 [222]).set 34 [223]
set_option maxRecDepth 100000 in
theorem nk_0 : ab_chkE mt_prog cs_mt n_cd n_cs 222 nq_0 mt_X2_append nu_0 = true := by decide +kernel
set_option maxRecDepth 100000 in
theorem nk_1 : ab_chkE mt_prog cs_mt n_cd n_cs 223 nq_1 mt_X2_clear nu_1 = true := by decide +kernel
set_option maxRecDepth 100000 in
theorem nk_2 : ab_chkE mt_prog cs_mt n_cd n_cs 224 nq_2 mt_X10_line nu_2 = true := by decide +kernel
set_option maxRecDepth 100000 in
theorem nk_3 : ab_chkE mt_prog cs_mt n_cd n_cs 225 nq_3 mt_X10_line nu_3 = true := by decide +kernel
set_option maxRecDepth 100000 in
theorem nk_4 : ab_chkE mt_prog cs_mt n_cd n_cs 226 nq_4 mt_X10_line nu_4 = true := by decide +kernel
set_option maxRecDepth 100000 in
theorem nk_5 : ab_chkE mt_prog cs_mt n_cd n_cs 227 nq_5 mt_X10_line nu_5 = true := by decide +kernel
set_option maxRecDepth 100000 in
theorem nk_6 : ab_chkE mt_prog cs_mt n_cd n_cs 228 nq_6 mt_X10_line nu_6 = true := by decide +kernel
set_option maxRecDepth 100000 in
theorem nk_7 : ab_chkE mt_prog cs_mt n_cd n_cs 229 nq_7 mt_X10_line nu_7 = true := by decide +kernel
set_option maxRecDepth 100000 in
theorem nk_8 : ab_chkE mt_prog cs_mt n_cd n_cs 230 nq_8 mt_X11_line nu_8 = true := by decide +kernel
set_option maxRecDepth 100000 in
theorem nk_9 : ab_chkE mt_prog cs_mt n_cd n_cs 231 nq_9 mt_X11_line nu_9 = true := by decide +kernel
set_option maxRecDepth 100000 in
theorem nk_10 : ab_chkE mt_prog cs_mt n_cd n_cs 232 nq_10 mt_X11_line nu_10 = true := by decide +kernel
set_option maxRecDepth 100000 in
theorem nk_11 : ab_chkE mt_prog cs_mt n_cd n_cs 233 nq_11 mt_X11_line nu_11 = true := by decide +kernel
set_option maxRecDepth 100000 in
theorem nk_12 : ab_chkE mt_prog cs_mt n_cd n_cs 234 nq_12 mt_X11_line nu_12 = true := by decide +kernel
set_option maxRecDepth 100000 in
theorem nk_13 : ab_chkE mt_prog cs_mt n_cd n_cs 235 nq_13 mt_X11_line nu_13 = true := by decide +kernel
set_option maxRecDepth 100000 in
theorem nk_14 : ab_chkE mt_prog cs_mt n_cd n_cs 236 nq_14 mt_X10_tear nu_14 = true := by decide +kernel
set_option maxRecDepth 100000 in
theorem nk_15 : ab_chkE mt_prog cs_mt n_cd n_cs 237 nq_15 mt_X11_tear nu_15 = true := by decide +kernel
set_option maxRecDepth 100000 in
theorem nk_16 : ab_chkE mt_prog (cs_mt.set 47 (false, true, [])) n_cd n_cs 238 nq_16 mt_X10_note nu_16 = true := by decide +kernel
set_option maxRecDepth 100000 in
theorem nk_17 : ab_chkE mt_prog (cs_mt.set 47 (false, true, [])) n_cd n_cs 239 nq_17 mt_X10_note nu_17 = true := by decide +kernel
set_option maxRecDepth 100000 in
theorem nk_18 : ab_chkE mt_prog (cs_mt.set 47 (false, true, [])) n_cd n_cs 240 nq_18 mt_X10_note nu_18 = true := by decide +kernel
set_option maxRecDepth 100000 in
theorem nk_19 : ab_chkE mt_prog (cs_mt.set 47 (false, true, [])) n_cd n_cs 241 nq_19 mt_X10_note nu_19 = true := by decide +kernel
set_option maxRecDepth 100000 in
theorem nk_20 : ab_chkE mt_prog (cs_mt.set 47 (false, true, [])) n_cd n_cs 242 nq_20 mt_X10_note nu_20 = true := by decide +kernel
set_option maxRecDepth 100000 in
theorem nk_21 : ab_chkE mt_prog (cs_mt.set 47 (false, true, [])) n_cd n_cs 243 nq_21 mt_X10_note nu_21 = true := by decide +kernel
set_option maxRecDepth 100000 in
theorem nk_22 : ab_chkE mt_prog (cs_mt.set 47 (false, true, [])) n_cd n_cs 244 nq_22 mt_X10_note nu_22 = true := by decide +kernel
set_option maxRecDepth 100000 in
theorem nk_23 : ab_chkE mt_prog (cs_mt.set 47 (false, true, [])) n_cd n_cs 245 nq_23 mt_X10_note nu_23 = true := by decide +kernel
set_option maxRecDepth 100000 in
theorem nk_24 : ab_chkE mt_prog (cs_mt.set 47 (false, true, [])) n_cd n_cs 246 nq_24 mt_X10_note nu_24 = true := by decide +kernel
set_option maxRecDepth 100000 in
theorem nk_25 : ab_chkE mt_prog (cs_mt.set 47 (false, true, [])) n_cd n_cs 247 nq_25 mt_X10_note nu_25 = true := by decide +kernel
set_option maxRecDepth 100000 in
theorem nk_26 : ab_chkE mt_prog (cs_mt.set 47 (false, true, [])) n_cd n_cs 248 nq_26 mt_X10_note nu_26 = true := by decide +kernel
set_option maxRecDepth 100000 in
theorem nk_27 : ab_chkE mt_prog (cs_mt.set 47 (false, true, [])) n_cd n_cs 249 nq_27 mt_X10_note nu_27 = true := by decide +kernel
set_option maxRecDepth 100000 in
theorem nk_28 : ab_chkE mt_prog (cs_mt.set 47 (false, true, [])) n_cd n_cs 250 nq_28 mt_X10_note nu_28 = true := by decide +kernel
set_option maxRecDepth 100000 in
theorem nk_29 : ab_chkE mt_prog (cs_mt.set 47 (false, true, [])) n_cd n_cs 251 nq_29 mt_X10_note nu_29 = true := by decide +kernel
set_option maxRecDepth 100000 in
theorem nk_30 : ab_chkE mt_prog (cs_mt.set 47 (false, true, [])) n_cd n_cs 252 nq_30 mt_X10_note nu_30 = true := by decide +kernel
set_option maxRecDepth 100000 in
theorem nk_31 : ab_chkE mt_prog (cs_mt.set 47 (false, true, [])) n_cd n_cs 253 nq_31 mt_X10_note nu_31 = true := by decide +kernel
set_option maxRecDepth 100000 in
theorem nk_32 : ab_chkE mt_prog (cs_mt.set 47 (false, true, [])) n_cd n_cs 254 nq_32 mt_X11_note nu_32 = true := by decide +kernel
set_option maxRecDepth 100000 in
theorem nk_32_0 : ab_chkC mt_prog (cs_mt.set 47 (false, true, [])) n_cd n_cs 254 nq_32 mt_X11_note nu_32 ((58, ([(0, av_k 542), (1, av_c 0), (2, av_s 0), (3, av_s 1), (4, av_s 7)], [], [.inl (0, 11, 0), .inl (0, 29, 0), .inl (0, 30, 0), .inl (0, 30, 0), .inl (0, 30, 0), .inl (0, 30, 0), .inl (0, 30, 0), .inl (0, 24, 0), .inl (0, 24, 0)], [(7, 8, 0)], [(av_k 556, av_s 1, av_s 8), (av_k 549, av_s 0, av_s 8), (av_k 542, av_c 8, av_k 549), (av_k 542, av_c 18, av_k 556), (av_k 555, av_c 0, av_s 1), (av_k 555, av_c 1, av_s 2), (av_k 555, av_c 2, av_s 3), (av_k 555, av_c 3, av_s 4), (av_k 555, av_c 4, av_s 5), (av_k 555, av_c 5, av_s 6), (av_k 542, av_c 17, av_k 555)], [], 0, 0), [(av_c 967, av_c 0), (av_c 24, av_s 7), (av_c 967, av_c 0)])) = true := by decide +kernel
set_option maxRecDepth 100000 in
theorem nk_33 : ab_chkE mt_prog (cs_mt.set 47 (false, true, [])) n_cd n_cs 255 nq_33 mt_X11_note nu_33 = true := by decide +kernel
set_option maxRecDepth 100000 in
theorem nk_34 : ab_chkE mt_prog (cs_mt.set 47 (false, true, [])) n_cd n_cs 256 nq_34 mt_X11_note nu_34 = true := by decide +kernel
set_option maxRecDepth 100000 in
theorem nk_34_0 : ab_chkC mt_prog (cs_mt.set 47 (false, true, [])) n_cd n_cs 256 nq_34 mt_X11_note nu_34 ((58, ([(0, av_k 542), (1, av_c 1), (2, av_s 0), (3, av_s 7), (4, av_s 8)], [], [.inl (0, 11, 0), .inl (0, 30, 0), .inl (0, 29, 0), .inl (0, 30, 0), .inl (0, 30, 0), .inl (0, 30, 0), .inl (0, 30, 0), .inl (30, 59, 0), .inl (0, 24, 0), .inl (0, 24, 0)], [(7, 2, 30), (2, 7, (-30)), (8, 9, 0)], [(av_k 556, av_s 7, av_s 9), (av_k 549, av_s 0, av_s 9), (av_k 542, av_c 8, av_k 549), (av_k 542, av_c 18, av_k 556), (av_k 555, av_c 0, av_s 1), (av_k 555, av_c 1, av_s 2), (av_k 555, av_c 2, av_s 3), (av_k 555, av_c 3, av_s 4), (av_k 555, av_c 4, av_s 5), (av_k 555, av_c 5, av_s 6), (av_k 542, av_c 17, av_k 555)], [], 0, 0), [(av_c 967, av_c 0), (av_c 24, av_s 8), (av_c 967, av_c 0)])) = true := by decide +kernel
set_option maxRecDepth 100000 in
theorem nk_35 : ab_chkE mt_prog (cs_mt.set 47 (false, true, [])) n_cd n_cs 257 nq_35 mt_X11_note nu_35 = true := by decide +kernel
set_option maxRecDepth 100000 in
theorem nk_36 : ab_chkE mt_prog (cs_mt.set 47 (false, true, [])) n_cd n_cs 258 nq_36 mt_X11_note nu_36 = true := by decide +kernel
set_option maxRecDepth 100000 in
theorem nk_36_0 : ab_chkC mt_prog (cs_mt.set 47 (false, true, [])) n_cd n_cs 258 nq_36 mt_X11_note nu_36 ((58, ([(0, av_k 542), (1, av_c 2), (2, av_s 0), (3, av_s 7), (4, av_s 8)], [], [.inl (0, 11, 0), .inl (0, 30, 0), .inl (0, 30, 0), .inl (0, 29, 0), .inl (0, 30, 0), .inl (0, 30, 0), .inl (0, 30, 0), .inl (60, 89, 0), .inl (0, 24, 0), .inl (0, 24, 0)], [(7, 3, 60), (3, 7, (-60)), (8, 9, 0)], [(av_k 556, av_s 7, av_s 9), (av_k 549, av_s 0, av_s 9), (av_k 542, av_c 8, av_k 549), (av_k 542, av_c 18, av_k 556), (av_k 555, av_c 0, av_s 1), (av_k 555, av_c 1, av_s 2), (av_k 555, av_c 2, av_s 3), (av_k 555, av_c 3, av_s 4), (av_k 555, av_c 4, av_s 5), (av_k 555, av_c 5, av_s 6), (av_k 542, av_c 17, av_k 555)], [], 0, 0), [(av_c 967, av_c 0), (av_c 24, av_s 8), (av_c 967, av_c 0)])) = true := by decide +kernel
set_option maxRecDepth 100000 in
theorem nk_37 : ab_chkE mt_prog (cs_mt.set 47 (false, true, [])) n_cd n_cs 259 nq_37 mt_X11_note nu_37 = true := by decide +kernel
set_option maxRecDepth 100000 in
theorem nk_38 : ab_chkE mt_prog (cs_mt.set 47 (false, true, [])) n_cd n_cs 260 nq_38 mt_X11_note nu_38 = true := by decide +kernel
set_option maxRecDepth 100000 in
theorem nk_38_0 : ab_chkC mt_prog (cs_mt.set 47 (false, true, [])) n_cd n_cs 260 nq_38 mt_X11_note nu_38 ((58, ([(0, av_k 542), (1, av_c 3), (2, av_s 0), (3, av_s 7), (4, av_s 8)], [], [.inl (0, 11, 0), .inl (0, 30, 0), .inl (0, 30, 0), .inl (0, 30, 0), .inl (0, 29, 0), .inl (0, 30, 0), .inl (0, 30, 0), .inl (90, 119, 0), .inl (0, 24, 0), .inl (0, 24, 0)], [(7, 4, 90), (4, 7, (-90)), (8, 9, 0)], [(av_k 556, av_s 7, av_s 9), (av_k 549, av_s 0, av_s 9), (av_k 542, av_c 8, av_k 549), (av_k 542, av_c 18, av_k 556), (av_k 555, av_c 0, av_s 1), (av_k 555, av_c 1, av_s 2), (av_k 555, av_c 2, av_s 3), (av_k 555, av_c 3, av_s 4), (av_k 555, av_c 4, av_s 5), (av_k 555, av_c 5, av_s 6), (av_k 542, av_c 17, av_k 555)], [], 0, 0), [(av_c 967, av_c 0), (av_c 24, av_s 8), (av_c 967, av_c 0)])) = true := by decide +kernel
set_option maxRecDepth 100000 in
theorem nk_39 : ab_chkE mt_prog (cs_mt.set 47 (false, true, [])) n_cd n_cs 261 nq_39 mt_X11_note nu_39 = true := by decide +kernel
set_option maxRecDepth 100000 in
theorem nk_40 : ab_chkE mt_prog (cs_mt.set 47 (false, true, [])) n_cd n_cs 262 nq_40 mt_X11_note nu_40 = true := by decide +kernel
set_option maxRecDepth 100000 in
theorem nk_40_0 : ab_chkC mt_prog (cs_mt.set 47 (false, true, [])) n_cd n_cs 262 nq_40 mt_X11_note nu_40 ((58, ([(0, av_k 542), (1, av_c 4), (2, av_s 0), (3, av_s 7), (4, av_s 8)], [], [.inl (0, 11, 0), .inl (0, 30, 0), .inl (0, 30, 0), .inl (0, 30, 0), .inl (0, 30, 0), .inl (0, 29, 0), .inl (0, 30, 0), .inl (120, 149, 0), .inl (0, 24, 0), .inl (0, 24, 0)], [(7, 5, 120), (5, 7, (-120)), (8, 9, 0)], [(av_k 556, av_s 7, av_s 9), (av_k 549, av_s 0, av_s 9), (av_k 542, av_c 8, av_k 549), (av_k 542, av_c 18, av_k 556), (av_k 555, av_c 0, av_s 1), (av_k 555, av_c 1, av_s 2), (av_k 555, av_c 2, av_s 3), (av_k 555, av_c 3, av_s 4), (av_k 555, av_c 4, av_s 5), (av_k 555, av_c 5, av_s 6), (av_k 542, av_c 17, av_k 555)], [], 0, 0), [(av_c 967, av_c 0), (av_c 24, av_s 8), (av_c 967, av_c 0)])) = true := by decide +kernel
set_option maxRecDepth 100000 in
theorem nk_41 : ab_chkE mt_prog (cs_mt.set 47 (false, true, [])) n_cd n_cs 263 nq_41 mt_X11_note nu_41 = true := by decide +kernel
set_option maxRecDepth 100000 in
theorem nk_42 : ab_chkE mt_prog (cs_mt.set 47 (false, true, [])) n_cd n_cs 264 nq_42 mt_X11_note nu_42 = true := by decide +kernel
set_option maxRecDepth 100000 in
theorem nk_42_0 : ab_chkC mt_prog (cs_mt.set 47 (false, true, [])) n_cd n_cs 264 nq_42 mt_X11_note nu_42 ((58, ([(0, av_k 542), (1, av_c 5), (2, av_s 0), (3, av_s 7), (4, av_s 8)], [], [.inl (0, 11, 0), .inl (0, 30, 0), .inl (0, 30, 0), .inl (0, 30, 0), .inl (0, 30, 0), .inl (0, 30, 0), .inl (0, 29, 0), .inl (150, 179, 0), .inl (0, 24, 0), .inl (0, 24, 0)], [(7, 6, 150), (6, 7, (-150)), (8, 9, 0)], [(av_k 556, av_s 7, av_s 9), (av_k 549, av_s 0, av_s 9), (av_k 542, av_c 8, av_k 549), (av_k 542, av_c 18, av_k 556), (av_k 555, av_c 0, av_s 1), (av_k 555, av_c 1, av_s 2), (av_k 555, av_c 2, av_s 3), (av_k 555, av_c 3, av_s 4), (av_k 555, av_c 4, av_s 5), (av_k 555, av_c 5, av_s 6), (av_k 542, av_c 17, av_k 555)], [], 0, 0), [(av_c 967, av_c 0), (av_c 24, av_s 8), (av_c 967, av_c 0)])) = true := by decide +kernel
set_option maxRecDepth 100000 in
theorem nk_43 : ab_chkE mt_prog (cs_mt.set 47 (false, true, [])) n_cd n_cs 265 nq_43 mt_X11_note nu_43 = true := by decide +kernel
set_option maxRecDepth 100000 in
theorem nk_44 : ab_chkE mt_prog (cs_mt.set 47 (false, true, [])) n_cd n_cs 266 nq_44 mt_X11_note nu_44 = true := by decide +kernel
set_option maxRecDepth 100000 in
theorem nk_45 : ab_chkE mt_prog (cs_mt.set 47 (false, true, [])) n_cd n_cs 267 nq_45 mt_X11_note nu_45 = true := by decide +kernel
set_option maxRecDepth 100000 in
theorem nk_46 : ab_chkE mt_prog (cs_mt.set 47 (false, true, [])) n_cd n_cs 268 nq_46 mt_X11_note nu_46 = true := by decide +kernel
set_option maxRecDepth 100000 in
theorem nk_47 : ab_chkE mt_prog (cs_mt.set 47 (false, true, [])) n_cd n_cs 269 nq_47 mt_X11_note nu_47 = true := by decide +kernel
section NY
variable {l : Launch} {G : ax_T}
theorem ny_0 (H : ab_Hand l G) : ∀ c Q, c < 222 → n_cs[c]? = some Q → ab_QOk l G mt_prog Q := fun c Q hc hQ => by
  unfold n_cs at hQ
  rw [List.getElem?_append_left (show c < cs_all.length from hc)] at hQ
  exact cy_222 H c Q hc hQ
theorem ny_1 (H : ab_Hand l G) : ∀ c Q, c < 223 → n_cs[c]? = some Q → ab_QOk l G mt_prog Q := ab_up (q := nq_0) (ny_0 H) rfl (ab_con_ok mt_ok (ny_0 H) mi_X2_append rfl nk_0 (fun c hc => nomatch hc))
theorem ny_2 (H : ab_Hand l G) : ∀ c Q, c < 224 → n_cs[c]? = some Q → ab_QOk l G mt_prog Q := ab_up (q := nq_1) (ny_1 H) rfl (ab_con_ok mt_ok (ny_1 H) mi_X2_clear rfl nk_1 (fun c hc => nomatch hc))
theorem ny_3 (H : ab_Hand l G) : ∀ c Q, c < 225 → n_cs[c]? = some Q → ab_QOk l G mt_prog Q := ab_up (q := nq_2) (ny_2 H) rfl (ab_con_ok mt_ok (ny_2 H) mi_X10_line rfl nk_2 (fun c hc => nomatch hc))
theorem ny_4 (H : ab_Hand l G) : ∀ c Q, c < 226 → n_cs[c]? = some Q → ab_QOk l G mt_prog Q := ab_up (q := nq_3) (ny_3 H) rfl (ab_con_ok mt_ok (ny_3 H) mi_X10_line rfl nk_3 (fun c hc => nomatch hc))
theorem ny_5 (H : ab_Hand l G) : ∀ c Q, c < 227 → n_cs[c]? = some Q → ab_QOk l G mt_prog Q := ab_up (q := nq_4) (ny_4 H) rfl (ab_con_ok mt_ok (ny_4 H) mi_X10_line rfl nk_4 (fun c hc => nomatch hc))
theorem ny_6 (H : ab_Hand l G) : ∀ c Q, c < 228 → n_cs[c]? = some Q → ab_QOk l G mt_prog Q := ab_up (q := nq_5) (ny_5 H) rfl (ab_con_ok mt_ok (ny_5 H) mi_X10_line rfl nk_5 (fun c hc => nomatch hc))
theorem ny_7 (H : ab_Hand l G) : ∀ c Q, c < 229 → n_cs[c]? = some Q → ab_QOk l G mt_prog Q := ab_up (q := nq_6) (ny_6 H) rfl (ab_con_ok mt_ok (ny_6 H) mi_X10_line rfl nk_6 (fun c hc => nomatch hc))
theorem ny_8 (H : ab_Hand l G) : ∀ c Q, c < 230 → n_cs[c]? = some Q → ab_QOk l G mt_prog Q := ab_up (q := nq_7) (ny_7 H) rfl (ab_con_ok mt_ok (ny_7 H) mi_X10_line rfl nk_7 (fun c hc => nomatch hc))
theorem ny_9 (H : ab_Hand l G) : ∀ c Q, c < 231 → n_cs[c]? = some Q → ab_QOk l G mt_prog Q := ab_up (q := nq_8) (ny_8 H) rfl (ab_con_ok mt_ok (ny_8 H) mi_X11_line rfl nk_8 (fun c hc => nomatch hc))
theorem ny_10 (H : ab_Hand l G) : ∀ c Q, c < 232 → n_cs[c]? = some Q → ab_QOk l G mt_prog Q := ab_up (q := nq_9) (ny_9 H) rfl (ab_con_ok mt_ok (ny_9 H) mi_X11_line rfl nk_9 (fun c hc => nomatch hc))
theorem ny_11 (H : ab_Hand l G) : ∀ c Q, c < 233 → n_cs[c]? = some Q → ab_QOk l G mt_prog Q := ab_up (q := nq_10) (ny_10 H) rfl (ab_con_ok mt_ok (ny_10 H) mi_X11_line rfl nk_10 (fun c hc => nomatch hc))
theorem ny_12 (H : ab_Hand l G) : ∀ c Q, c < 234 → n_cs[c]? = some Q → ab_QOk l G mt_prog Q := ab_up (q := nq_11) (ny_11 H) rfl (ab_con_ok mt_ok (ny_11 H) mi_X11_line rfl nk_11 (fun c hc => nomatch hc))
theorem ny_13 (H : ab_Hand l G) : ∀ c Q, c < 235 → n_cs[c]? = some Q → ab_QOk l G mt_prog Q := ab_up (q := nq_12) (ny_12 H) rfl (ab_con_ok mt_ok (ny_12 H) mi_X11_line rfl nk_12 (fun c hc => nomatch hc))
theorem ny_14 (H : ab_Hand l G) : ∀ c Q, c < 236 → n_cs[c]? = some Q → ab_QOk l G mt_prog Q := ab_up (q := nq_13) (ny_13 H) rfl (ab_con_ok mt_ok (ny_13 H) mi_X11_line rfl nk_13 (fun c hc => nomatch hc))
theorem ny_15 (H : ab_Hand l G) : ∀ c Q, c < 237 → n_cs[c]? = some Q → ab_QOk l G mt_prog Q := ab_up (q := nq_14) (ny_14 H) rfl (ab_con_ok mt_ok (ny_14 H) mi_X10_tear rfl nk_14 (fun c hc => nomatch hc))
theorem ny_16 (H : ab_Hand l G) : ∀ c Q, c < 238 → n_cs[c]? = some Q → ab_QOk l G mt_prog Q := ab_up (q := nq_15) (ny_15 H) rfl (ab_con_ok mt_ok (ny_15 H) mi_X11_tear rfl nk_15 (fun c hc => nomatch hc))
theorem ny_17 (H : ab_Hand l G) : ∀ c Q, c < 239 → n_cs[c]? = some Q → ab_QOk l G mt_prog Q := ab_up (q := nq_16) (ny_16 H) rfl (ab_con_ok mt_ok (ny_16 H) mi_X10_note rfl nk_16 (fun c hc => nomatch hc))
theorem ny_18 (H : ab_Hand l G) : ∀ c Q, c < 240 → n_cs[c]? = some Q → ab_QOk l G mt_prog Q := ab_up (q := nq_17) (ny_17 H) rfl (ab_con_ok mt_ok (ny_17 H) mi_X10_note rfl nk_17 (fun c hc => nomatch hc))
theorem ny_19 (H : ab_Hand l G) : ∀ c Q, c < 241 → n_cs[c]? = some Q → ab_QOk l G mt_prog Q := ab_up (q := nq_18) (ny_18 H) rfl (ab_con_ok mt_ok (ny_18 H) mi_X10_note rfl nk_18 (fun c hc => nomatch hc))
theorem ny_20 (H : ab_Hand l G) : ∀ c Q, c < 242 → n_cs[c]? = some Q → ab_QOk l G mt_prog Q := ab_up (q := nq_19) (ny_19 H) rfl (ab_con_ok mt_ok (ny_19 H) mi_X10_note rfl nk_19 (fun c hc => nomatch hc))
theorem ny_21 (H : ab_Hand l G) : ∀ c Q, c < 243 → n_cs[c]? = some Q → ab_QOk l G mt_prog Q := ab_up (q := nq_20) (ny_20 H) rfl (ab_con_ok mt_ok (ny_20 H) mi_X10_note rfl nk_20 (fun c hc => nomatch hc))
theorem ny_22 (H : ab_Hand l G) : ∀ c Q, c < 244 → n_cs[c]? = some Q → ab_QOk l G mt_prog Q := ab_up (q := nq_21) (ny_21 H) rfl (ab_con_ok mt_ok (ny_21 H) mi_X10_note rfl nk_21 (fun c hc => nomatch hc))
theorem ny_23 (H : ab_Hand l G) : ∀ c Q, c < 245 → n_cs[c]? = some Q → ab_QOk l G mt_prog Q := ab_up (q := nq_22) (ny_22 H) rfl (ab_con_ok mt_ok (ny_22 H) mi_X10_note rfl nk_22 (fun c hc => nomatch hc))
theorem ny_24 (H : ab_Hand l G) : ∀ c Q, c < 246 → n_cs[c]? = some Q → ab_QOk l G mt_prog Q := ab_up (q := nq_23) (ny_23 H) rfl (ab_con_ok mt_ok (ny_23 H) mi_X10_note rfl nk_23 (fun c hc => nomatch hc))
theorem ny_25 (H : ab_Hand l G) : ∀ c Q, c < 247 → n_cs[c]? = some Q → ab_QOk l G mt_prog Q := ab_up (q := nq_24) (ny_24 H) rfl (ab_con_ok mt_ok (ny_24 H) mi_X10_note rfl nk_24 (fun c hc => nomatch hc))
theorem ny_26 (H : ab_Hand l G) : ∀ c Q, c < 248 → n_cs[c]? = some Q → ab_QOk l G mt_prog Q := ab_up (q := nq_25) (ny_25 H) rfl (ab_con_ok mt_ok (ny_25 H) mi_X10_note rfl nk_25 (fun c hc => nomatch hc))
theorem ny_27 (H : ab_Hand l G) : ∀ c Q, c < 249 → n_cs[c]? = some Q → ab_QOk l G mt_prog Q := ab_up (q := nq_26) (ny_26 H) rfl (ab_con_ok mt_ok (ny_26 H) mi_X10_note rfl nk_26 (fun c hc => nomatch hc))
theorem ny_28 (H : ab_Hand l G) : ∀ c Q, c < 250 → n_cs[c]? = some Q → ab_QOk l G mt_prog Q := ab_up (q := nq_27) (ny_27 H) rfl (ab_con_ok mt_ok (ny_27 H) mi_X10_note rfl nk_27 (fun c hc => nomatch hc))
theorem ny_29 (H : ab_Hand l G) : ∀ c Q, c < 251 → n_cs[c]? = some Q → ab_QOk l G mt_prog Q := ab_up (q := nq_28) (ny_28 H) rfl (ab_con_ok mt_ok (ny_28 H) mi_X10_note rfl nk_28 (fun c hc => nomatch hc))
theorem ny_30 (H : ab_Hand l G) : ∀ c Q, c < 252 → n_cs[c]? = some Q → ab_QOk l G mt_prog Q := ab_up (q := nq_29) (ny_29 H) rfl (ab_con_ok mt_ok (ny_29 H) mi_X10_note rfl nk_29 (fun c hc => nomatch hc))
theorem ny_31 (H : ab_Hand l G) : ∀ c Q, c < 253 → n_cs[c]? = some Q → ab_QOk l G mt_prog Q := ab_up (q := nq_30) (ny_30 H) rfl (ab_con_ok mt_ok (ny_30 H) mi_X10_note rfl nk_30 (fun c hc => nomatch hc))
theorem ny_32 (H : ab_Hand l G) : ∀ c Q, c < 254 → n_cs[c]? = some Q → ab_QOk l G mt_prog Q := ab_up (q := nq_31) (ny_31 H) rfl (ab_con_ok mt_ok (ny_31 H) mi_X10_note rfl nk_31 (fun c hc => nomatch hc))
theorem ny_33 (H : ab_Hand l G) : ∀ c Q, c < 255 → n_cs[c]? = some Q → ab_QOk l G mt_prog Q := ab_up (q := nq_32) (ny_32 H) rfl (ab_con_ok mt_ok (ny_32 H) mi_X11_note rfl nk_32 (fun c hc => by rw [show nu_32 = [_] from rfl, List.mem_singleton] at hc; subst hc; exact nk_32_0))
theorem ny_34 (H : ab_Hand l G) : ∀ c Q, c < 256 → n_cs[c]? = some Q → ab_QOk l G mt_prog Q := ab_up (q := nq_33) (ny_33 H) rfl (ab_con_ok mt_ok (ny_33 H) mi_X11_note rfl nk_33 (fun c hc => nomatch hc))
theorem ny_35 (H : ab_Hand l G) : ∀ c Q, c < 257 → n_cs[c]? = some Q → ab_QOk l G mt_prog Q := ab_up (q := nq_34) (ny_34 H) rfl (ab_con_ok mt_ok (ny_34 H) mi_X11_note rfl nk_34 (fun c hc => by rw [show nu_34 = [_] from rfl, List.mem_singleton] at hc; subst hc; exact nk_34_0))
theorem ny_36 (H : ab_Hand l G) : ∀ c Q, c < 258 → n_cs[c]? = some Q → ab_QOk l G mt_prog Q := ab_up (q := nq_35) (ny_35 H) rfl (ab_con_ok mt_ok (ny_35 H) mi_X11_note rfl nk_35 (fun c hc => nomatch hc))
theorem ny_37 (H : ab_Hand l G) : ∀ c Q, c < 259 → n_cs[c]? = some Q → ab_QOk l G mt_prog Q := ab_up (q := nq_36) (ny_36 H) rfl (ab_con_ok mt_ok (ny_36 H) mi_X11_note rfl nk_36 (fun c hc => by rw [show nu_36 = [_] from rfl, List.mem_singleton] at hc; subst hc; exact nk_36_0))
theorem ny_38 (H : ab_Hand l G) : ∀ c Q, c < 260 → n_cs[c]? = some Q → ab_QOk l G mt_prog Q := ab_up (q := nq_37) (ny_37 H) rfl (ab_con_ok mt_ok (ny_37 H) mi_X11_note rfl nk_37 (fun c hc => nomatch hc))
theorem ny_39 (H : ab_Hand l G) : ∀ c Q, c < 261 → n_cs[c]? = some Q → ab_QOk l G mt_prog Q := ab_up (q := nq_38) (ny_38 H) rfl (ab_con_ok mt_ok (ny_38 H) mi_X11_note rfl nk_38 (fun c hc => by rw [show nu_38 = [_] from rfl, List.mem_singleton] at hc; subst hc; exact nk_38_0))
theorem ny_40 (H : ab_Hand l G) : ∀ c Q, c < 262 → n_cs[c]? = some Q → ab_QOk l G mt_prog Q := ab_up (q := nq_39) (ny_39 H) rfl (ab_con_ok mt_ok (ny_39 H) mi_X11_note rfl nk_39 (fun c hc => nomatch hc))
theorem ny_41 (H : ab_Hand l G) : ∀ c Q, c < 263 → n_cs[c]? = some Q → ab_QOk l G mt_prog Q := ab_up (q := nq_40) (ny_40 H) rfl (ab_con_ok mt_ok (ny_40 H) mi_X11_note rfl nk_40 (fun c hc => by rw [show nu_40 = [_] from rfl, List.mem_singleton] at hc; subst hc; exact nk_40_0))
theorem ny_42 (H : ab_Hand l G) : ∀ c Q, c < 264 → n_cs[c]? = some Q → ab_QOk l G mt_prog Q := ab_up (q := nq_41) (ny_41 H) rfl (ab_con_ok mt_ok (ny_41 H) mi_X11_note rfl nk_41 (fun c hc => nomatch hc))
theorem ny_43 (H : ab_Hand l G) : ∀ c Q, c < 265 → n_cs[c]? = some Q → ab_QOk l G mt_prog Q := ab_up (q := nq_42) (ny_42 H) rfl (ab_con_ok mt_ok (ny_42 H) mi_X11_note rfl nk_42 (fun c hc => by rw [show nu_42 = [_] from rfl, List.mem_singleton] at hc; subst hc; exact nk_42_0))
theorem ny_44 (H : ab_Hand l G) : ∀ c Q, c < 266 → n_cs[c]? = some Q → ab_QOk l G mt_prog Q := ab_up (q := nq_43) (ny_43 H) rfl (ab_con_ok mt_ok (ny_43 H) mi_X11_note rfl nk_43 (fun c hc => nomatch hc))
theorem ny_45 (H : ab_Hand l G) : ∀ c Q, c < 267 → n_cs[c]? = some Q → ab_QOk l G mt_prog Q := ab_up (q := nq_44) (ny_44 H) rfl (ab_con_ok mt_ok (ny_44 H) mi_X11_note rfl nk_44 (fun c hc => nomatch hc))
theorem ny_46 (H : ab_Hand l G) : ∀ c Q, c < 268 → n_cs[c]? = some Q → ab_QOk l G mt_prog Q := ab_up (q := nq_45) (ny_45 H) rfl (ab_con_ok mt_ok (ny_45 H) mi_X11_note rfl nk_45 (fun c hc => nomatch hc))
theorem ny_47 (H : ab_Hand l G) : ∀ c Q, c < 269 → n_cs[c]? = some Q → ab_QOk l G mt_prog Q := ab_up (q := nq_46) (ny_46 H) rfl (ab_con_ok mt_ok (ny_46 H) mi_X11_note rfl nk_46 (fun c hc => nomatch hc))
theorem ny_48 (H : ab_Hand l G) : ∀ c Q, c < 270 → n_cs[c]? = some Q → ab_QOk l G mt_prog Q := ab_up (q := nq_47) (ny_47 H) rfl (ab_con_ok mt_ok (ny_47 H) mi_X11_note rfl nk_47 (fun c hc => nomatch hc))
end NY
