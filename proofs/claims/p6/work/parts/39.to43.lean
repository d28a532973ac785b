section
/-! ===== kinds of the cells (printed by wip/mkkinds.py) ===== -/
/-- a type: an int between bounds with a flag, a long, a cell of some kinds (bits) -/
abbrev ab_Y : Type := (Int × Int × Nat) ⊕ Option Nat
/-- a kind: an array (number of its type, least and greatest length, type of all elements, of each), or an object (number of its class, types of its fields) -/
abbrev ab_P : Type := (Nat × Nat × Nat × ab_Y × List ab_Y) ⊕ (Nat × List ab_Y)
def kd_0 : List Nat := [0, 1, 2, 3, 8, 11, 12, 13, 14, 15, 16, 17, 18, 19, 20, 21, 22, 23, 4, 5, 6, 7, 24, 25, 26, 27, 28, 29, 30, 33, 31, 32]
def kd_1 : List Nat := [34, 35, 36, 41, 42, 45, 48, 49, 50, 51, 43, 44, 46, 47, 43, 44, 46, 47, 43, 44, 46, 47, 43, 44, 46, 47, 43, 44, 46, 47, 43, 44]
def kd_2 : List Nat := [46, 47, 43, 44, 46, 47, 43, 44, 46, 47, 43, 44, 46, 47, 43, 44, 46, 47, 43, 44, 46, 47, 43, 44, 46, 47, 43, 44, 46, 47, 43, 44]
def kd_3 : List Nat := [46, 47, 43, 44, 46, 47, 43, 44, 46, 47, 43, 44, 46, 47, 43, 44, 46, 47, 43, 44, 46, 47, 43, 44, 46, 47, 4, 5, 6, 7, 4, 5]
def kd_4 : List Nat := [6, 7, 4, 5, 6, 7, 4, 5, 6, 7, 4, 5, 6, 7, 4, 5, 6, 7, 9, 10, 9, 10, 9, 10, 9, 10, 9, 10, 9, 10, 9, 10]
def kd_5 : List Nat := [9, 10, 9, 10, 9, 10, 9, 10, 9, 10, 37, 38, 39, 40, 39, 40, 39, 40, 39, 40, 39, 40, 39, 40, 39, 40, 39, 40, 39, 40, 39, 40]
def kd_6 : List Nat := [39, 40, 39, 40, 39, 40, 39, 40, 39, 40, 39, 40, 39, 40, 39, 40, 39, 40, 39, 40, 39, 40, 39, 40, 39, 40, 39, 40, 39, 40, 39, 40]
def kd_7 : List Nat := [39, 40, 39, 40, 39, 40, 39, 40, 37, 38, 39, 40, 39, 40, 39, 40, 39, 40, 39, 40, 39, 40, 39, 40, 39, 40, 39, 40, 39, 40, 39, 40]
def kd_8 : List Nat := [39, 40, 39, 40, 39, 40, 39, 40, 39, 40, 39, 40, 39, 40, 39, 40, 39, 40, 39, 40, 39, 40, 39, 40, 39, 40, 39, 40, 39, 40, 39, 40]
def kd_9 : List Nat := [39, 40, 39, 40, 39, 40, 37, 38, 39, 40, 39, 40, 39, 40, 39, 40, 39, 40, 39, 40, 39, 40, 39, 40, 39, 40, 39, 40, 39, 40, 39, 40]
def kd_10 : List Nat := [39, 40, 39, 40, 39, 40, 39, 40, 39, 40, 39, 40, 39, 40, 39, 40, 39, 40, 39, 40, 39, 40, 39, 40, 39, 40, 39, 40, 39, 40, 39, 40]
def kd_11 : List Nat := [39, 40, 39, 40, 37, 38, 39, 40, 39, 40, 39, 40, 39, 40, 39, 40, 39, 40, 39, 40, 39, 40, 39, 40, 39, 40, 39, 40, 39, 40, 39, 40]
def kd_12 : List Nat := [39, 40, 39, 40, 39, 40, 39, 40, 39, 40, 39, 40, 39, 40, 39, 40, 39, 40, 39, 40, 39, 40, 39, 40, 39, 40, 39, 40, 39, 40, 39, 40]
def kd_13 : List Nat := [39, 40, 37, 38, 39, 40, 39, 40, 39, 40, 39, 40, 39, 40, 39, 40, 39, 40, 39, 40, 39, 40, 39, 40, 39, 40, 39, 40, 39, 40, 39, 40]
def kd_14 : List Nat := [39, 40, 39, 40, 39, 40, 39, 40, 39, 40, 39, 40, 39, 40, 39, 40, 39, 40, 39, 40, 39, 40, 39, 40, 39, 40, 39, 40, 39, 40, 39, 40]
def kd_15 : List Nat := [37, 38, 39, 40, 39, 40, 39, 40, 39, 40, 39, 40, 39, 40, 39, 40, 39, 40, 39, 40, 39, 40, 39, 40, 39, 40, 39, 40, 39, 40, 39, 40]
def kd_16 : List Nat := [39, 40, 39, 40, 39, 40, 39, 40, 39, 40, 39, 40, 39, 40, 39, 40, 39, 40, 39, 40, 39, 40, 39, 40, 39, 40, 39, 40, 39, 40, 52, 53]
def kd_17 : List Nat := [54, 55, 56, 57, 58, 59, 60, 61, 62, 63, 64, 65, 66, 67, 68, 69, 70, 71, 72, 73, 74, 75, 76, 77, 78, 79, 80, 81, 82]
def kd_all : List (List Nat) := [kd_0, kd_1, kd_2, kd_3, kd_4, kd_5, kd_6, kd_7, kd_8, kd_9, kd_10, kd_11, kd_12, kd_13, kd_14, kd_15, kd_16, kd_17]
def ab_k (k : Nat) : Nat := (kd_all.getD (k / 32) []).getD (k % 32) 34
def ks_0 : ab_P := .inr (10, [.inr (some 2), .inr (some 8), .inr (some 256), .inr (some 2048), .inr (some 16777216), .inr (some 1073741824), .inr (some 68719476736), .inr (some 2199023255552), .inl (0, 6, 0), .inl (0, 40, 0), .inl (0, 30, 0)])  -- X
def ks_1 : ab_P := .inr (4, [.inr (some 4), .inl (0, 80, 0)])  -- Page
def ks_2 : ab_P := .inl (0, 80, 80, .inl (0, 255, 0), [])  -- Page.codes
def ks_3 : ab_P := .inl (3, 6, 6, .inr (some 16), [])  -- customs
def ks_4 : ab_P := .inr (1, [.inr (some 32), .inr (some 64), .inr (some 128)])  -- Custom
def ks_5 : ab_P := .inl (0, 14, 14, .inl ((-48), 207, 0), [])  -- Custom.counts
def ks_6 : ab_P := .inl (0, 14, 14, .inl ((-2147483648), 2147483647, 0), [])  -- Custom.once
def ks_7 : ab_P := .inl (0, 14, 14, .inl ((-2147483648), 2147483647, 0), [])  -- Custom.twice
def ks_8 : ab_P := .inl (2, 12, 12, .inr (some 512), [])  -- rows
def ks_9 : ab_P := .inr (5, [.inr (some 1024), .inl (0, 24, 0)])  -- Row
def ks_10 : ab_P := .inl (0, 24, 24, .inl (0, 13, 0), [])  -- Row.signs
def ks_11 : ab_P := .inr (9, [.inr (some 4096), .inr (some 131072), .inr (some 4194304), .inr (some 16), .inl ((-1), 5, 0), .inl (0, 9999999, 0), .inl ((-2147483648), 2147483647, 0), .inl ((-2147483648), 2147483647, 0), .inl ((-2147483648), 2147483647, 0), .inl ((-2147483648), 2147483647, 0)])  -- Writings
def ks_12 : ab_P := .inr (8, [.inr (some 8192), .inr (some 16384), .inr (some 32768), .inr (some 65536)])  -- lower
def ks_13 : ab_P := .inl (0, 15, 15, .inl (1, 10000000, 0), [.inl (1, 1, 0), .inl (5, 5, 0), .inl (10, 10, 0), .inl (50, 50, 0), .inl (100, 100, 0), .inl (500, 500, 0), .inl (1000, 1000, 0), .inl (1000, 1000, 0), .inl (5000, 5000, 0), .inl (10000, 10000, 0), .inl (50000, 50000, 0), .inl (100000, 100000, 0), .inl (500000, 500000, 0), .inl (1000000, 1000000, 0), .inl (10000000, 10000000, 0)])  -- lower.units
def ks_14 : ab_P := .inl (0, 15, 15, .inl (0, 24, 0), [.inl (0, 0, 0), .inl (4, 4, 0), .inl (12, 12, 0), .inl (4, 4, 0), .inl (12, 12, 0), .inl (4, 4, 0), .inl (12, 12, 0), .inl (24, 24, 0), .inl (4, 4, 0), .inl (12, 12, 0), .inl (4, 4, 0), .inl (12, 12, 0), .inl (4, 4, 0), .inl (12, 12, 0), .inl (2, 2, 0)])  -- lower.mostTimes
def ks_15 : ab_P := .inl (0, 15, 15, .inl (0, 134, 0), [.inl (0, 0, 0), .inl (1, 1, 0), .inl (6, 6, 0), .inl (19, 19, 0), .inl (24, 24, 0), .inl (37, 37, 0), .inl (42, 42, 0), .inl (55, 55, 0), .inl (80, 80, 0), .inl (85, 85, 0), .inl (98, 98, 0), .inl (103, 103, 0), .inl (116, 116, 0), .inl (121, 121, 0), .inl (134, 134, 0)])  -- lower.firstCell
def ks_16 : ab_P := .inl (0, 3425, 3425, .inl (0, 5000, 0), [])  -- lower.counts
def ks_17 : ab_P := .inr (8, [.inr (some 262144), .inr (some 524288), .inr (some 1048576), .inr (some 2097152)])  -- unplain
def ks_18 : ab_P := .inl (0, 15, 15, .inl (1, 10000000, 0), [.inl (1, 1, 0), .inl (5, 5, 0), .inl (10, 10, 0), .inl (50, 50, 0), .inl (100, 100, 0), .inl (500, 500, 0), .inl (1000, 1000, 0), .inl (1000, 1000, 0), .inl (5000, 5000, 0), .inl (10000, 10000, 0), .inl (50000, 50000, 0), .inl (100000, 100000, 0), .inl (500000, 500000, 0), .inl (1000000, 1000000, 0), .inl (10000000, 10000000, 0)])  -- unplain.units
def ks_19 : ab_P := .inl (0, 15, 15, .inl (1, 24, 0), [.inl (1, 1, 0), .inl (5, 5, 0), .inl (13, 13, 0), .inl (5, 5, 0), .inl (13, 13, 0), .inl (5, 5, 0), .inl (13, 13, 0), .inl (24, 24, 0), .inl (5, 5, 0), .inl (13, 13, 0), .inl (5, 5, 0), .inl (13, 13, 0), .inl (5, 5, 0), .inl (13, 13, 0), .inl (3, 3, 0)])  -- unplain.mostTimes
def ks_20 : ab_P := .inl (0, 15, 15, .inl (0, 147, 0), [.inl (0, 0, 0), .inl (2, 2, 0), .inl (8, 8, 0), .inl (22, 22, 0), .inl (28, 28, 0), .inl (42, 42, 0), .inl (48, 48, 0), .inl (62, 62, 0), .inl (87, 87, 0), .inl (93, 93, 0), .inl (107, 107, 0), .inl (113, 113, 0), .inl (127, 127, 0), .inl (133, 133, 0), .inl (147, 147, 0)])  -- unplain.firstCell
def ks_21 : ab_P := .inl (0, 3775, 3775, .inl (0, 5000, 0), [])  -- unplain.counts
def ks_22 : ab_P := .inr (5, [.inr (some 8388608), .inl (0, 24, 0)])  -- Found
def ks_23 : ab_P := .inl (0, 24, 24, .inl (0, 13, 0), [])  -- Found.signs
def ks_24 : ab_P := .inr (0, [.inr (some 33554432), .inr (some 67108864), .inr (some 134217728), .inr (some 268435456), .inr (some 536870912), .inl (0, 300, 0)])  -- Abacus
def ks_25 : ab_P := .inl (0, 7, 7, .inl ((-2147483648), 2147483647, 0), [])  -- Abacus.given
def ks_26 : ab_P := .inl (0, 7, 7, .inl ((-2147483648), 2147483647, 0), [])  -- Abacus.owed
def ks_27 : ab_P := .inl (0, 7, 7, .inl ((-2147483648), 2147483647, 0), [])  -- Abacus.moreGiven
def ks_28 : ab_P := .inl (0, 7, 7, .inl ((-2147483648), 2147483647, 0), [])  -- Abacus.moreOwed
def ks_29 : ab_P := .inl (0, 300, 300, .inl ((-2147483648), 2147483647, 0), [])  -- Abacus.steps
def ks_30 : ab_P := .inr (7, [.inr (some 8589934592), .inl (0, 20, 0), .inl (0, 21, 0), .inr (some 2147483648), .inr (some 17179869184), .inr (some 34359738368), .inl (0, 41160, 0), .inl (0, 41160, 0), .inl ((-1), 5, 0)])  -- Slab
def ks_31 : ab_P := .inr (5, [.inr (some 4294967296), .inl (0, 24, 0)])  -- Filling
def ks_32 : ab_P := .inl (0, 24, 24, .inl (0, 13, 0), [])  -- Filling.signs
def ks_33 : ab_P := .inl (0, 21, 21, .inl (0, 14, 0), [])  -- Slab.signs
def ks_34 : ab_P := .inl (0, 1, 41160, .inl ((-2147483648), 2147483647, 0), [])  -- Slab.worths
def ks_35 : ab_P := .inl (0, 20, 20, .inl ((-1), 14, 0), [])  -- Slab.common
def ks_36 : ab_P := .inl (4, 6, 6, .inr (some 137438953472), [])  -- masons
def ks_37 : ab_P := .inr (3, [.inr (some 274877906944), .inl (0, 30, 0), .inl ((-2147483648), 2147483647, 0)])  -- Mason
def ks_38 : ab_P := .inl (2, 30, 30, .inr (some 549755813888), [])  -- Mason.rows
def ks_39 : ab_P := .inr (5, [.inr (some 1099511627776), .inl (0, 24, 0)])  -- MRow
def ks_40 : ab_P := .inl (0, 24, 24, .inl (0, 13, 0), [])  -- MRow.signs
def ks_41 : ab_P := .inr (2, [.inr (some 4398046511104), .inr (some 35184372088832), .inr (some 281474976710656), .inr (some 562949953421312), .inl (0, 20, 0), .inr (some 1125899906842624), .inl (0, 1, 0), .inl (0, 1, 0), .inl ((-2147483648), 2147483647, 0), .inl ((-2147483648), 2147483647, 0), .inl ((-2147483648), 2147483647, 0), .inl ((-2147483648), 2147483647, 0)])  -- Ledger
def ks_42 : ab_P := .inl (2, 20, 20, .inr (some 8796093022208), [])  -- Ledger.amounts
def ks_43 : ab_P := .inr (5, [.inr (some 17592186044416), .inl (0, 24, 0)])  -- ARow
def ks_44 : ab_P := .inl (0, 24, 24, .inl (0, 13, 0), [])  -- ARow.signs
def ks_45 : ab_P := .inl (2, 20, 20, .inr (some 70368744177664), [])  -- Ledger.totals
def ks_46 : ab_P := .inr (5, [.inr (some 140737488355328), .inl (0, 24, 0)])  -- TRow
def ks_47 : ab_P := .inl (0, 24, 24, .inl (0, 13, 0), [])  -- TRow.signs
def ks_48 : ab_P := .inl (0, 20, 20, .inl ((-2147483648), 2147483647, 0), [])  -- Ledger.amountWorths
def ks_49 : ab_P := .inl (0, 20, 20, .inl ((-2147483648), 2147483647, 0), [])  -- Ledger.totalWorths
def ks_50 : ab_P := .inr (5, [.inr (some 2251799813685248), .inl (0, 24, 0)])  -- Trial
def ks_51 : ab_P := .inl (0, 24, 24, .inl (0, 13, 0), [])  -- Trial.signs
def ks_52 : ab_P := .inr (11, [.inr (some 9007199254740992), .inr (some 18014398509481984), .inl (0, 80, 0), .inr (some 36028797018963968), .inl (0, 6, 0), .inr (some 72057594037927936), .inr (some 144115188075855872), .inr (some 288230376151711744), .inr (some 576460752303423488), .inr (some 1152921504606846976), .inr (some 2305843009213693952), .inr (some 4611686018427387904), .inl (0, 300, 0), .inr (some 9223372036854775808), .inl (0, 20, 0), .inl (0, 1, 0), .inr (some 18446744073709551616), .inr (some 36893488147419103232), .inr (some 73786976294838206464), .inr (some 147573952589676412928), .inl (0, 20, 0), .inr (some 295147905179352825856), .inr (some 590295810358705651712), .inl (0, 40, 0), .inl (0, 30, 0), .inl (0, 80, 0), .inl (0, 1, 0), .inr (some 1180591620717411303424), .inr (some 2361183241434822606848), .inr (some 4722366482869645213696), .inr (some 9444732965739290427392), .inr (some 18889465931478580854784), .inr (some 37778931862957161709568), .inr (some 75557863725914323419136), .inr (some 151115727451828646838272), .inl (0, 5000, 0), .inl (0, 25, 0), .inl (0, 40000, 0), .inr (some 302231454903657293676544), .inr (some 604462909807314587353088), .inr (some 1208925819614629174706176), .inr (some 2417851639229258349412352), .inr (some 4835703278458516698824704), .inl ((-2147483648), 2147483647, 0), .inl ((-2147483648), 2147483647, 0), .inl ((-2147483648), 2147483647, 0), .inl ((-2147483648), 2147483647, 0), .inr none])  -- M
def ks_53 : ab_P := .inl (0, 14, 14, .inl (1, 1000000, 0), [.inl (1, 1, 0), .inl (5, 5, 0), .inl (10, 10, 0), .inl (50, 50, 0), .inl (100, 100, 0), .inl (500, 500, 0), .inl (1000, 1000, 0), .inl (1000, 1000, 0), .inl (5000, 5000, 0), .inl (10000, 10000, 0), .inl (50000, 50000, 0), .inl (100000, 100000, 0), .inl (500000, 500000, 0), .inl (1000000, 1000000, 0)])  -- M.worths
def ks_54 : ab_P := .inl (0, 14, 14, .inl (67, 120, 3), [.inl (73, 73, 0), .inl (86, 86, 0), .inl (88, 88, 0), .inl (76, 76, 0), .inl (67, 67, 0), .inl (68, 68, 0), .inl (77, 77, 0), .inl (105, 105, 0), .inl (118, 118, 0), .inl (120, 120, 0), .inl (108, 108, 0), .inl (99, 99, 0), .inl (100, 100, 0), .inl (109, 109, 0)])  -- M.codes
def ks_55 : ab_P := .inl (1, 80, 80, .inl ((-128), 127, 0), [])  -- M.page
def ks_56 : ab_P := .inl (0, 84, 84, .inl (0, 9, 0), [])  -- M.counts
def ks_57 : ab_P := .inl (0, 84, 84, .inl ((-2147483648), 2147483647, 0), [])  -- M.once
def ks_58 : ab_P := .inl (0, 84, 84, .inl ((-2147483648), 2147483647, 0), [])  -- M.twiceOf
def ks_59 : ab_P := .inl (0, 13, 13, .inl (0, 24, 0), [])  -- M.sizes
def ks_60 : ab_P := .inl (0, 312, 312, .inl (0, 13, 0), [])  -- M.signs
def ks_61 : ab_P := .inl (0, 7, 7, .inl (0, 99, 0), [])  -- M.given
def ks_62 : ab_P := .inl (0, 7, 7, .inl (0, 99, 0), [])  -- M.owed
def ks_63 : ab_P := .inl (0, 300, 300, .inl ((-2147483648), 2147483647, 0), [])  -- M.stepOf
def ks_64 : ab_P := .inl (0, 20, 20, .inl (0, 14, 0), [])  -- M.stoneOf
def ks_65 : ab_P := .inl (0, 6, 6, .inl (0, 30, 0), [])  -- M.noted
def ks_66 : ab_P := .inl (0, 180, 180, .inl (0, 24, 0), [])  -- M.notedSize
def ks_67 : ab_P := .inl (0, 4320, 4320, .inl (0, 13, 0), [])  -- M.notedSigns
def ks_68 : ab_P := .inl (0, 40, 40, .inl (0, 24, 0), [])  -- M.lineSize
def ks_69 : ab_P := .inl (0, 960, 960, .inl (0, 13, 0), [])  -- M.lineSigns
def ks_70 : ab_P := .inl (0, 15, 15, .inl ((-1), 9, 0), [])  -- M.plains
def ks_71 : ab_P := .inl (0, 15, 15, .inl (0, 28, 0), [])  -- M.takings
def ks_72 : ab_P := .inl (0, 15, 15, .inl (0, 14, 0), [])  -- M.caps
def ks_73 : ab_P := .inl (0, 15, 15, .inl ((-2147483648), 2147483647, 0), [])  -- M.lefts
def ks_74 : ab_P := .inl (0, 15, 15, .inl (0, 24, 0), [])  -- M.usedOf
def ks_75 : ab_P := .inl (0, 15, 15, .inl ((-2147483648), 2147483647, 0), [])  -- M.mostOf
def ks_76 : ab_P := .inl (0, 15, 15, .inl ((-2147483648), 2147483647, 0), [])  -- M.leastOf
def ks_77 : ab_P := .inl (0, 15, 15, .inl (0, 2147483647, 0), [])  -- M.sharedOf
def ks_78 : ab_P := .inl (0, 40000, 40000, .inl ((-2147483648), 2147483647, 0), [])  -- M.said
def ks_79 : ab_P := .inl (0, 131072, 131072, .inl (0, 40000, 0), [])  -- M.hash
def ks_80 : ab_P := .inl (0, 20, 20, .inl ((-1), 14, 0), [])  -- M.sureOf
def ks_81 : ab_P := .inl (0, 21, 21, .inl (0, 14, 0), [])  -- M.fill
def ks_82 : ab_P := .inl (0, 25, 25, .inl (0, 13, 0), [])  -- M.right
def ab_K : List ab_P := [ks_0, ks_1, ks_2, ks_3, ks_4, ks_5, ks_6, ks_7, ks_8, ks_9, ks_10, ks_11, ks_12, ks_13, ks_14, ks_15, ks_16, ks_17, ks_18, ks_19, ks_20, ks_21, ks_22, ks_23, ks_24, ks_25, ks_26, ks_27, ks_28, ks_29, ks_30, ks_31, ks_32, ks_33, ks_34, ks_35, ks_36, ks_37, ks_38, ks_39, ks_40, ks_41, ks_42, ks_43, ks_44, ks_45, ks_46, ks_47, ks_48, ks_49, ks_50, ks_51, ks_52, ks_53, ks_54, ks_55, ks_56, ks_57, ks_58, ks_59, ks_60, ks_61, ks_62, ks_63, ks_64, ks_65, ks_66, ks_67, ks_68, ks_69, ks_70, ks_71, ks_72, ks_73, ks_74, ks_75, ks_76, ks_77, ks_78, ks_79, ks_80, ks_81, ks_82]
/-- kinds that one cell alone has -/
def ab_uq : List (Nat × Nat) := [(0, 0), (1, 1), (2, 2), (3, 3), (8, 4), (11, 5), (12, 6), (13, 7), (14, 8), (15, 9), (16, 10), (17, 11), (18, 12), (19, 13), (20, 14), (21, 15), (22, 16), (23, 17), (24, 22), (25, 23), (26, 24), (27, 25), (28, 26), (29, 27), (30, 28), (31, 30), (32, 31), (33, 29), (35, 33), (36, 34), (41, 35), (42, 36), (45, 37), (48, 38), (49, 39), (50, 40), (51, 41), (52, 542), (53, 543), (54, 544), (55, 545), (56, 546), (57, 547), (58, 548), (59, 549), (60, 550), (61, 551), (62, 552), (63, 553), (64, 554), (65, 555), (66, 556), (67, 557), (68, 558), (69, 559), (70, 560), (71, 561), (72, 562), (73, 563), (74, 564), (75, 565), (76, 566), (77, 567), (78, 568), (79, 569), (80, 570), (81, 571), (82, 572)]
end
section
/-! ===== what is told of cells beyond their kinds ===== -/
/-- a place of a cell: a field, an element; below 0 the length of an array -/
def ab_rd (h : ax_H) (k : Nat) (i : Int) : Option Value := match ax_raw h k with
  | some (.inr (_, fs)) => bif decide (i < 0) then none else fs[i.toNat]?
  | some (.inl (_, N, .inl f)) => bif decide (i < 0) then some (.int (Int32.ofNat N)) else some (.int (ax_fi f i.toNat))
  | some (.inl (_, N, .inr f)) => bif decide (i < 0) then some (.int (Int32.ofNat N)) else (ax_fr f i.toNat).map Value.ref
  | none => none
def ab_ri (h : ax_H) (k : Nat) (i : Int) : Int := match ab_rd h k i with
  | some (.int x) => x.toInt
  | _ => 0
/-- how many of the first are gaps -/
def ab_gc (h : ax_H) (k : Nat) : Nat → Nat
  | 0 => 0
  | i + 1 => ab_gc h k i + (if ab_ri h k i = 14 then 1 else 0)
/-- the stone's gaps are few, in the class and in the reference; the class's stone has room for what it found -/
def ab_J (h : ax_H) : Prop := (ab_gc h 29 (ab_ri h 28 1).toNat ≤ 3 ∧ ab_ri h 28 1 ≤ ab_ri h 28 2 ∧ ab_ri h 28 2 ≤ ab_ri h 28 1 + 1) ∧ ab_gc h 554 (ab_ri h 542 14).toNat ≤ 3 ∧
  ∀ w : Nat, ab_rd h 28 4 = some (.ref w) → ab_ri h 28 6 ≤ ab_ri h w (-1) ∧ ab_ri h 28 7 ≤ ab_ri h w (-1)
/-- places that it speaks of: kind, number -/
def ab_pt (κ : Nat) (i : Int) : Bool := (Nat.beq κ 30 && (decide (i = 1) || (decide (i = 2) || decide (i = 4)))) || ((Nat.beq κ 33 || Nat.beq κ 64) && decide (0 ≤ i) || Nat.beq κ 52 && decide (i = 14))
/-- and of which it tells no more than a bound -/
def ab_pq (κ : Nat) (i : Int) : Bool := Nat.beq κ 30 && (decide (i = 6) || decide (i = 7))
theorem ab_ri_of {h h' : ax_H} {k : Nat} {i : Int} (e : ab_rd h' k i = ab_rd h k i) : ab_ri h' k i = ab_ri h k i := by unfold ab_ri; rw [e]
theorem ab_gc_of {h h' : ax_H} {k : Nat} : ∀ m : Nat, (∀ i : Nat, i < m → ab_rd h' k i = ab_rd h k i) → ab_gc h' k m = ab_gc h k m
  | 0, _ => rfl
  | m + 1, e => by rw [ab_gc, ab_gc, ab_gc_of m (fun i hi => e i (by omega)), ab_ri_of (e m (by omega))]
theorem ab_J_keep {h h' : ax_H} (h1 : ∀ k i, ab_pt (ab_k k) i = true → ab_rd h' k i = ab_rd h k i) (h2 : ∀ k i, i < 0 → ab_rd h' k i = ab_rd h k i)
    (h3 : ∀ w : Nat, ab_rd h 28 4 = some (.ref w) → (ab_ri h' 28 6 ≤ ab_ri h 28 6 ∨ ab_ri h' 28 6 ≤ ab_ri h 28 7 ∨ ab_ri h' 28 6 ≤ ab_ri h w (-1)) ∧ (ab_ri h' 28 7 ≤ ab_ri h 28 7 ∨ ab_ri h' 28 7 ≤ ab_ri h 28 6 ∨ ab_ri h' 28 7 ≤ ab_ri h w (-1))) (hJ : ab_J h) : ab_J h' := by
  obtain ⟨⟨j1, j2, j3⟩, j4, j5⟩ := hJ
  have e1 : ab_ri h' 28 1 = ab_ri h 28 1 := ab_ri_of (h1 28 1 rfl)
  have e2 : ab_ri h' 28 2 = ab_ri h 28 2 := ab_ri_of (h1 28 2 rfl)
  have e3 : ab_ri h' 542 14 = ab_ri h 542 14 := ab_ri_of (h1 542 14 rfl)
  refine ⟨⟨?_, by omega, by omega⟩, ?_, fun w hw => ?_⟩
  · rw [e1, ab_gc_of _ (fun i _ => h1 29 i (by show (false || ((true || _) && decide (0 ≤ (i : Int)) || _)) = true; simp))]
    exact j1
  · rw [e3, ab_gc_of _ (fun i _ => h1 554 i (by show (false || ((_ || true) && decide (0 ≤ (i : Int)) || _)) = true; simp))]
    exact j4
  · rw [h1 28 4 rfl] at hw
    have e4 : ab_ri h' w (-1) = ab_ri h w (-1) := ab_ri_of (h2 w (-1) (by decide))
    have := j5 w hw
    obtain ⟨a, b⟩ := h3 w hw
    rw [e4]
    constructor <;> omega
end
section
/-! ===== abstract states: symbols with types, differences between them, what cells were read to hold ===== -/
/-- a symbolic value: a known int, a symbol, a known cell, a static array -/
abbrev ab_V : Type := Int ⊕ (Nat ⊕ (Nat ⊕ Nat))
def ab_rng (c : Int) : Bool := decide (-2147483648 ≤ c) && decide (c ≤ 2147483647)
theorem ab_rng_ok {c : Int} (h : ab_rng c = true) : (Int32.ofInt c).toInt = c := by
  simp only [ab_rng, Bool.and_eq_true, decide_eq_true_eq] at h
  exact Int32.toInt_ofInt_of_le (by omega) (by omega)
theorem ab_rng_iff {c : Int} : ab_rng c = true ↔ -2147483648 ≤ c ∧ c ≤ 2147483647 := by
  simp only [ab_rng, Bool.and_eq_true, decide_eq_true_eq]
theorem ab_bm {x : Int} (h1 : -2147483648 ≤ x) (h2 : x ≤ 2147483647) : x.bmod (2 ^ 32) = x := Int.bmod_eq_of_le (by omega) (by omega)
/-- flags: 1 the bits 8 to 11 are 13 at most, 2 the lowest four are, 3 a sign's letter -/
def ab_fl (f : Nat) (x : Int) : Prop := match f with
  | 1 => 0 ≤ x → x / 256 % 16 ≤ 13
  | 2 => 0 ≤ x → x % 16 ≤ 13
  | 3 => x ∈ ([73, 86, 88, 76, 67, 68, 77, 105, 118, 120, 108, 99, 100, 109] : List Int)
  | _ => True
def ab_ok (n : Nat) (v : Value) : ab_Y → Prop
  | .inl (lo, hi, f) => ∃ x : Int32, v = .int x ∧ lo ≤ x.toInt ∧ x.toInt ≤ hi ∧ ab_fl f x.toInt
  | .inr none => ∃ x : Int64, v = .long x
  | .inr (some M) => ∃ k : Nat, v = .ref k ∧ k < n ∧ M.testBit (ab_k k) = true
theorem ab_ok_mono {n n' : Nat} (hn : n ≤ n') {v : Value} {t : ab_Y} (h : ab_ok n v t) : ab_ok n' v t := by
  rcases t with ⟨lo, hi, f⟩ | (_ | M)
  · exact h
  · exact h
  · obtain ⟨k, h1, h2, h3⟩ := h
    exact ⟨k, h1, Nat.lt_of_lt_of_le h2 hn, h3⟩
/-- a cell is as its kind says -/
def ab_cf (n : Nat) (S : ab_P) (d : ax_D) : Prop := match S, d with
  | .inl (t, N1, N2, τ, σ), .inl (t', N, .inl f) => t' = t ∧ t < 2 ∧ N1 ≤ N ∧ N ≤ N2 ∧ N2 < 2147483648 ∧ ∀ i, i < N → ab_ok n (.int (ax_fi f i)) τ ∧ ab_ok n (.int (ax_fi f i)) (σ.getD i τ)
  | .inl (t, N1, N2, τ, σ), .inl (t', N, .inr f) => t' = t ∧ 2 ≤ t ∧ σ = [] ∧ N1 ≤ N ∧ N ≤ N2 ∧ N2 < 2147483648 ∧ ∀ i, i < N → ∃ k, ax_fr f i = some k ∧ ab_ok n (.ref k) τ
  | .inr (ci, τs), .inr (ci', fs) => ci' = ci ∧ fs.length = τs.length ∧ ∀ (j : Nat) (v : Value), fs[j]? = some v → ∃ τ, τs[j]? = some τ ∧ ab_ok n v τ
  | _, _ => False
/-- the lists of cells are so long that the next one comes to its place -/
def ab_sh (h : ax_H) (n : Nat) : Prop := (h.getD (n / 32) []).length = n % 32 ∧ n / 32 ≤ h.length ∧ h.length ≤ n / 32 + 1
/-- all cells are as their kinds say -/
def ab_HT (h : ax_H) (n : Nat) : Prop := 573 ≤ n ∧ (∀ k, k < n → ∃ d S, ax_raw h k = some d ∧ ab_K[ab_k k]? = some S ∧ ab_cf n S d) ∧ (ab_J h ∧ ab_sh h n)
/-- locals, stack, types of symbols, differences, what was read, what all first elements are, new cells, new slots -/
abbrev ab_S : Type := List (Nat × ab_V) × List ab_V × List ab_Y × List (Nat × Nat × Int) × List (ab_V × ab_V × ab_V) × List (ab_V × ab_V × ab_Y) × Nat × Nat
def ab_cv (V : List Value) : ab_V → Option Value
  | .inl c => bif ab_rng c then some (.int (Int32.ofInt c)) else none
  | .inr (.inl u) => V[u]?
  | .inr (.inr (.inl k)) => some (.ref k)
  | .inr (.inr (.inr j)) => some (.retAddr j)
theorem ab_cv_app {V : List Value} (W : List Value) {a : ab_V} {v : Value} (h : ab_cv V a = some v) : ab_cv (V ++ W) a = some v := by
  rcases a with c | (u | (k | j))
  · exact h
  · have hl := (List.getElem?_eq_some_iff.mp (show V[u]? = some v from h)).1
    show (V ++ W)[u]? = some v
    rw [List.getElem?_append_left hl]; exact h
  · exact h
  · exact h
def ab_lk (L : List (Nat × ab_V)) (k : Nat) : Option ab_V := (L.find? fun q => Nat.beq q.1 k).map (·.2)
/-- what is told of locals: by looking up -/
def ab_lvR (V : List Value) (L : List (Nat × ab_V)) (lv : List (Nat × Value)) : Prop := ∀ (k : Nat) (a : ab_V), ab_lk L k = some a → ∃ v, ax_look lv k = some v ∧ ab_cv V a = some v
def ab_stR (V : List Value) : List ab_V → List Value → Prop
  | [], [] => True
  | a :: L, v :: st => ab_cv V a = some v ∧ ab_stR V L st
  | _, _ => False
theorem ab_lvR_app {V : List Value} (W : List Value) {L : List (Nat × ab_V)} {lv : List (Nat × Value)} (h : ab_lvR V L lv) : ab_lvR (V ++ W) L lv := fun k a hk => by
  obtain ⟨v, h1, h2⟩ := h k a hk
  exact ⟨v, h1, ab_cv_app W h2⟩
theorem ab_stR_app {V : List Value} (W : List Value) : ∀ {L : List ab_V} {st : List Value}, ab_stR V L st → ab_stR (V ++ W) L st
  | [], [], _ => trivial
  | a :: L, v :: st, h => ⟨ab_cv_app W h.1, ab_stR_app W h.2⟩
  | [], _ :: _, h => h.elim
  | _ :: _, [], h => h.elim
def ab_ty (n : Nat) (V : List Value) (Γ : List ab_Y) : Prop := V.length = Γ.length ∧ ∀ (u : Nat) (τ : ab_Y), Γ[u]? = some τ → ∃ v, V[u]? = some v ∧ ab_ok n v τ
def ab_co (V : List Value) (C : List (Nat × Nat × Int)) : Prop := ∀ q ∈ C, ∃ x y : Int32, V[q.1]? = some (.int x) ∧ V[q.2.1]? = some (.int y) ∧ x.toInt - y.toInt ≤ q.2.2
/-- a place's content, or a sum -/
def ab_ca1 (V : List Value) (h : ax_H) (q : ab_V × ab_V × ab_V) : Prop := (∃ (k : Nat) (x : Int32) (w : Value), ab_cv V q.1 = some (.ref k) ∧ ab_cv V q.2.1 = some (.int x) ∧ ab_cv V q.2.2 = some w ∧ ab_rd h k x.toInt = some w) ∨
  ∃ x y z : Int32, ab_cv V q.1 = some (.int x) ∧ ab_cv V q.2.1 = some (.int y) ∧ ab_cv V q.2.2 = some (.int z) ∧ z.toInt = x.toInt + y.toInt
def ab_ca (V : List Value) (h : ax_H) (F : List (ab_V × ab_V × ab_V)) : Prop := ∀ q ∈ F, ab_ca1 V h q
def ab_sg (n : Nat) (V : List Value) (h : ax_H) (Z : List (ab_V × ab_V × ab_Y)) : Prop := ∀ q ∈ Z, ∃ (k : Nat) (b : Int32), ab_cv V q.1 = some (.ref k) ∧ ab_cv V q.2.1 = some (.int b) ∧ ∀ i : Int, 0 ≤ i → i < b.toInt → ∃ w, ab_rd h k i = some w ∧ ab_ok n w q.2.2
/-- what a method may change: kinds (bits), a field's number, or all elements (-2) -/
def ab_md (M : List (Nat × Int)) (κ : Nat) (i : Int) : Bool := M.any fun q => Nat.testBit q.1 κ && (decide (q.2 = i) || decide (q.2 = -2) && decide (0 ≤ i))
def ab_fr (M : List (Nat × Int)) (n0 : Nat) (h0 h : ax_H) : Prop := ∀ k, k < n0 → ∀ i, ab_md M (ab_k k) i = false → ab_rd h k i = ab_rd h0 k i
/-- what a method was called with, the cells then, what it may change -/
abbrev ab_E : Type := List Value × ax_H × Nat × List (Nat × Int)
def ab_hp (E : ab_E) (h : ax_H) (n : Nat) : Prop := ab_HT h n ∧ ab_fr E.2.2.2 E.2.2.1 E.2.1 h ∧ E.2.2.1 ≤ n
def ab_g (E : ab_E) (S : ab_S) (V : List Value) (lv : List (Nat × Value)) (st : List Value) (h : ax_H) (n cs ss : Nat) : Prop :=
  ab_lvR V S.1 lv ∧ ab_stR V S.2.1 st ∧ ab_ty n V S.2.2.1 ∧ ab_co V S.2.2.2.1 ∧ ab_ca V h S.2.2.2.2.1 ∧ ab_sg n V h S.2.2.2.2.2.1 ∧ (cs = S.2.2.2.2.2.2.1 ∧ ss = S.2.2.2.2.2.2.2) ∧ ab_hp E h n ∧ ∀ (u : Nat) (v : Value), E.1[u]? = some v → V[u]? = some v
theorem ab_ty_app {n : Nat} {V : List Value} {Γ : List ab_Y} {w : Value} {τ : ab_Y} (h : ab_ty n V Γ) (hw : ab_ok n w τ) : ab_ty n (V ++ [w]) (Γ ++ [τ]) := by
  refine ⟨by simp [h.1], fun u σ hu => ?_⟩
  by_cases hl : u < Γ.length
  · rw [List.getElem?_append_left hl] at hu
    obtain ⟨v, h1, h2⟩ := h.2 u σ hu
    exact ⟨v, by rw [List.getElem?_append_left (by rw [h.1]; exact hl)]; exact h1, h2⟩
  · rw [List.getElem?_append_right (by omega)] at hu
    have hz : u - Γ.length < 1 := (List.getElem?_eq_some_iff.mp hu).1
    have hz0 : u - Γ.length = 0 := by omega
    rw [hz0] at hu
    obtain rfl : τ = σ := Option.some.inj hu
    refine ⟨w, ?_, hw⟩
    rw [List.getElem?_append_right (by rw [h.1]; omega), h.1, hz0]; rfl
theorem ab_co_app {V : List Value} (W : List Value) {C : List (Nat × Nat × Int)} (h : ab_co V C) : ab_co (V ++ W) C := fun q hq => by
  obtain ⟨x, y, h1, h2, h3⟩ := h q hq
  exact ⟨x, y, ab_cv_app (a := .inr (.inl q.1)) W h1, ab_cv_app (a := .inr (.inl q.2.1)) W h2, h3⟩
theorem ab_ca_app {V : List Value} (W : List Value) {h : ax_H} {F : List (ab_V × ab_V × ab_V)} (hF : ab_ca V h F) : ab_ca (V ++ W) h F := fun q hq => by
  rcases hF q hq with ⟨k, x, w, h1, h2, h3, h4⟩ | ⟨x, y, z, h1, h2, h3, h4⟩
  · exact Or.inl ⟨k, x, w, ab_cv_app W h1, ab_cv_app W h2, ab_cv_app W h3, h4⟩
  · exact Or.inr ⟨x, y, z, ab_cv_app W h1, ab_cv_app W h2, ab_cv_app W h3, h4⟩
theorem ab_sg_app {n : Nat} {V : List Value} (W : List Value) {h : ax_H} {Z : List (ab_V × ab_V × ab_Y)} (hZ : ab_sg n V h Z) : ab_sg n (V ++ W) h Z := fun q hq => by
  obtain ⟨k, b, h1, h2, h3⟩ := hZ q hq
  exact ⟨k, b, ab_cv_app W h1, ab_cv_app W h2, h3⟩
theorem ab_co_two {V : List Value} {C D : List (Nat × Nat × Int)} (h1 : ab_co V C) (h2 : ab_co V D) : ab_co V (C ++ D) := fun q hq => (List.mem_append.mp hq).elim (h1 q) (h2 q)
theorem ab_new (V : List Value) (w : Value) : (V ++ [w])[V.length]? = some w := by rw [List.getElem?_append_right (Nat.le_refl _), Nat.sub_self]; rfl
/-- what a step answers: a value that there is, or a symbol more, with its type and differences -/
abbrev ab_R : Type := ab_V ⊕ (ab_Y × List (Nat × Nat × Int))
def ab_den (n : Nat) (V : List Value) (r : ab_R) (w : Value) : Prop := match r with
  | .inl v => ab_cv V v = some w
  | .inr (τ, C) => ab_ok n w τ ∧ ab_co (V ++ [w]) C
/-- the answer on the stack -/
def ab_put (S : ab_S) (st : List ab_V) (r : ab_R) : ab_S := match r with
  | .inl v => (S.1, v :: st, S.2.2)
  | .inr (τ, C) => (S.1, .inr (.inl S.2.2.1.length) :: st, S.2.2.1 ++ [τ], C ++ S.2.2.2.1, S.2.2.2.2)
/-- one valuation goes on another -/
def ab_ext (V V' : List Value) : Prop := ∀ (u : Nat) (v : Value), V[u]? = some v → V'[u]? = some v
theorem ab_ext_refl (V : List Value) : ab_ext V V := fun _ _ h => h
theorem ab_ext_app (V W : List Value) : ab_ext V (V ++ W) := fun u _ h => ab_cv_app (a := .inr (.inl u)) W h
theorem ab_ext_cv {V V' : List Value} (hx : ab_ext V V') {a : ab_V} {v : Value} (h : ab_cv V a = some v) : ab_cv V' a = some v := by
  rcases a with c | (u | (k | j))
  · exact h
  · exact hx u v h
  · exact h
  · exact h
theorem ab_put_ext {E : ab_E} {S : ab_S} {V : List Value} {lv : List (Nat × Value)} {st0 st1 : List Value} {st : List ab_V} {h : ax_H} {n cs ss : Nat} {r : ab_R} {w : Value} (hg : ab_g E S V lv st0 h n cs ss) (hst : ab_stR V st st1) (hr : ab_den n V r w) :
    ∃ V', ab_ext V V' ∧ ab_g E (ab_put S st r) V' lv (w :: st1) h n cs ss := by
  obtain ⟨g1, g2, g3, g4, g5, g6, g7, g8, g9⟩ := hg
  rcases r with v | ⟨τ, C⟩
  · exact ⟨V, ab_ext_refl V, g1, ⟨hr, hst⟩, g3, g4, g5, g6, g7, g8, g9⟩
  · refine ⟨V ++ [w], ab_ext_app V [w], ab_lvR_app _ g1, ⟨?_, ab_stR_app _ hst⟩, ab_ty_app g3 hr.1, ab_co_two hr.2 (ab_co_app _ g4), ab_ca_app _ g5, ab_sg_app _ g6, g7, g8, fun u v hu => ab_cv_app (a := .inr (.inl u)) _ (g9 u v hu)⟩
    show (V ++ [w])[S.2.2.1.length]? = some w
    rw [← g3.1]; exact ab_new V w
theorem ab_put_ok {E : ab_E} {S : ab_S} {V : List Value} {lv : List (Nat × Value)} {st0 st1 : List Value} {st : List ab_V} {h : ax_H} {n cs ss : Nat} {r : ab_R} {w : Value} (hg : ab_g E S V lv st0 h n cs ss) (hst : ab_stR V st st1) (hr : ab_den n V r w) :
    ∃ V', ab_g E (ab_put S st r) V' lv (w :: st1) h n cs ss := by
  obtain ⟨V', -, h⟩ := ab_put_ext hg hst hr
  exact ⟨V', h⟩
/-- bounds of a value -/
def ab_iv (Γ : List ab_Y) : ab_V → Option (Int × Int)
  | .inl c => bif ab_rng c then some (c, c) else none
  | .inr (.inl u) => match Γ[u]? with
    | some (.inl (lo, hi, _)) => some (lo, hi)
    | _ => none
  | _ => none
theorem ab_iv_ok {n : Nat} {V : List Value} {Γ : List ab_Y} (hΓ : ab_ty n V Γ) {a : ab_V} {b : Int × Int} (h : ab_iv Γ a = some b) {v : Value} (hv : ab_cv V a = some v) : ∃ x : Int32, v = .int x ∧ b.1 ≤ x.toInt ∧ x.toInt ≤ b.2 := by
  rcases a with c | (u | (k | j))
  · simp only [ab_iv, ab_cv] at h hv
    cases e : ab_rng c with
    | false => rw [e] at h; cases h
    | true =>
      rw [e] at h hv
      cases h
      cases hv
      exact ⟨_, rfl, by rw [ab_rng_ok e]; exact ⟨Int.le_refl _, Int.le_refl _⟩⟩
  · simp only [ab_iv] at h
    split at h
    · rename_i lo hi f hu
      cases h
      obtain ⟨w, h1, x, h2, h3, h4, -⟩ := hΓ.2 u _ hu
      have : w = v := Option.some.inj (h1.symm.trans hv)
      subst this
      exact ⟨x, h2, h3, h4⟩
    · cases h
  · cases h
  · cases h
/-- two values are the same -/
def ab_veq : ab_V → ab_V → Bool
  | .inl c, .inl d => decide (c = d)
  | .inr (.inl u), .inr (.inl w) => Nat.beq u w
  | .inr (.inr (.inl u)), .inr (.inr (.inl w)) => Nat.beq u w
  | .inr (.inr (.inr u)), .inr (.inr (.inr w)) => Nat.beq u w
  | _, _ => false
theorem ab_veq_ok {a b : ab_V} (h : ab_veq a b = true) : a = b := by
  rcases a with c | (u | (k | j)) <;> rcases b with c' | (u' | (k' | j')) <;> simp only [ab_veq, decide_eq_true_eq, Nat.beq_eq, Bool.false_eq_true] at h <;> first | exact h.elim | (subst h; rfl)
/-- an upper bound of a difference from a value whose least is told -/
def ab_ubn (Γ : List ab_Y) (C : List (Nat × Nat × Int)) (b : ab_V) (q : Int) : Nat → ab_V → Option Int
  | 0, a => bif ab_veq a b then some 0 else (ab_iv Γ a).map fun p => p.2 - q
  | f + 1, a => bif ab_veq a b then some 0 else match a with
    | .inr (.inl u) => match ab_iv Γ a with
      | some p => some (C.foldl (fun m e => bif Nat.beq e.1 u then (match ab_ubn Γ C b q f (.inr (.inl e.2.1)) with
          | some d => min m (e.2.2 + d)
          | none => m) else m) (p.2 - q))
      | none => none
    | _ => (ab_iv Γ a).map fun p => p.2 - q
/-- an upper bound of a difference -/
def ab_ub (Γ : List ab_Y) (C : List (Nat × Nat × Int)) (f : Nat) (a b : ab_V) : Option Int := match ab_iv Γ b with
  | some q => ab_ubn Γ C b q.1 f a
  | none => none
theorem ab_fold {α : Type} {f : Int → α → Int} {t : Int} (hf : ∀ m q, t ≤ m → t ≤ f m q) : ∀ (L : List α) (m : Int), t ≤ m → t ≤ L.foldl f m
  | [], m, h => h
  | q :: L, m, h => ab_fold hf L (f m q) (hf m q h)
theorem ab_foldM {α : Type} {P : α → Prop} {f : Int → α → Int} {t : Int} (hf : ∀ m q, P q → t ≤ m → t ≤ f m q) : ∀ (L : List α), (∀ q ∈ L, P q) → ∀ (m : Int), t ≤ m → t ≤ L.foldl f m
  | [], _, m, h => h
  | q :: L, hL, m, h => ab_foldM hf L (fun r hr => hL r (List.mem_cons_of_mem _ hr)) (f m q) (hf m q (hL q List.mem_cons_self) h)
theorem ab_ubn_ok {n : Nat} {V : List Value} {Γ : List ab_Y} {C : List (Nat × Nat × Int)} (hΓ : ab_ty n V Γ) (hC : ab_co V C) {b : ab_V} {q : Int} {y : Int32} (hy : ab_cv V b = some (.int y)) (hq : q ≤ y.toInt) : ∀ (f : Nat) (a : ab_V) (d : Int), ab_ubn Γ C b q f a = some d → ∀ x : Int32, ab_cv V a = some (.int x) → x.toInt - y.toInt ≤ d := by
  have hsame : ∀ (a : ab_V) (x : Int32), ab_veq a b = true → ab_cv V a = some (.int x) → x.toInt - y.toInt ≤ 0 := by
    intro a x e hx
    rw [ab_veq_ok e, hy] at hx
    cases hx
    omega
  have hiv : ∀ (a : ab_V) (d : Int), (ab_iv Γ a).map (fun p => p.2 - q) = some d → ∀ x : Int32, ab_cv V a = some (.int x) → x.toInt - y.toInt ≤ d := by
    intro a d h x hx
    obtain ⟨p, hp, rfl⟩ := Option.map_eq_some_iff.mp h
    obtain ⟨x', e1, -, h2⟩ := ab_iv_ok hΓ hp hx
    cases e1
    omega
  intro f
  induction f with
  | zero =>
    intro a d h x hx
    unfold ab_ubn at h
    cases e : ab_veq a b with
    | true => rw [e] at h; cases h; exact hsame a x e hx
    | false => rw [e] at h; exact hiv a d h x hx
  | succ f ih =>
    intro a d h x hx
    unfold ab_ubn at h
    cases e : ab_veq a b with
    | true => rw [e] at h; cases h; exact hsame a x e hx
    | false =>
      rw [e] at h
      simp only [cond_false] at h
      split at h
      · rename_i u
        split at h
        · rename_i p hp
          obtain rfl := Option.some.inj h
          refine ab_foldM (P := fun e => e ∈ C) (fun m e he hm => ?_) C (fun e he => he) _ (hiv _ _ (by rw [hp]; rfl) x hx)
          obtain ⟨x1, y1, e1, e2, e3⟩ := hC e he
          cases eu : Nat.beq e.1 u with
          | false => exact hm
          | true =>
            have eu' : e.1 = u := by simpa [Nat.beq_eq] using eu
            have hx1 : x1 = x := by
              rw [eu'] at e1
              have := e1.symm.trans hx
              cases this; rfl
            subst hx1
            simp only [cond_true]
            split
            · rename_i d' hd'
              have := ih _ _ hd' y1 e2
              omega
            · exact hm
        · cases h
      · exact hiv _ d h x hx
theorem ab_ub_ok {n : Nat} {V : List Value} {Γ : List ab_Y} {C : List (Nat × Nat × Int)} (hΓ : ab_ty n V Γ) (hC : ab_co V C) (f : Nat) (a b : ab_V) (d : Int) (h : ab_ub Γ C f a b = some d) (x y : Int32) (hx : ab_cv V a = some (.int x)) (hy : ab_cv V b = some (.int y)) : x.toInt - y.toInt ≤ d := by
  unfold ab_ub at h
  split at h
  · rename_i q hq
    obtain ⟨y', e2, h3, -⟩ := ab_iv_ok hΓ hq hy
    cases e2
    exact ab_ubn_ok hΓ hC hy h3 f a d h x hx
  · cases h
/-- a difference is at most so much -/
def ab_leq (Γ : List ab_Y) (C : List (Nat × Nat × Int)) (f : Nat) (a b : ab_V) (c : Int) : Bool := match ab_ub Γ C f a b with
  | some d => decide (d ≤ c)
  | none => false
theorem ab_leq_ok {n : Nat} {V : List Value} {Γ : List ab_Y} {C : List (Nat × Nat × Int)} (hΓ : ab_ty n V Γ) (hC : ab_co V C) {f : Nat} {a b : ab_V} {c : Int} (h : ab_leq Γ C f a b c = true) {x y : Int32} (hx : ab_cv V a = some (.int x)) (hy : ab_cv V b = some (.int y)) : x.toInt - y.toInt ≤ c := by
  unfold ab_leq at h
  split at h
  · rename_i d hd
    exact Int.le_trans (ab_ub_ok hΓ hC f a b d hd x y hx hy) (of_decide_eq_true h)
  · cases h
end
section
/-! ===== operations on ints, over bounds ===== -/
def ab_top : ab_Y := .inl (-2147483648, 2147483647, 0)
theorem ab_top_ok (n : Nat) (x : Int32) : ab_ok n (.int x) ab_top := ⟨x, rfl, by have := x.le_toInt; omega, by have := x.toInt_lt; omega, trivial⟩
def ab_sy : ab_V → Option Nat
  | .inr (.inl u) => some u
  | _ => none
/-- t - a is between p and q, where a is a symbol -/
def ab_d2 (t : Nat) (a : ab_V) (p q : Int) : List (Nat × Nat × Int) := match a with
  | .inr (.inl u) => [(t, u, q), (u, t, -p)]
  | _ => []
theorem ab_d2_ok {V : List Value} {a : ab_V} {p q : Int} {x z : Int32} (ha : ab_cv V a = some (.int x)) (h1 : p ≤ z.toInt - x.toInt) (h2 : z.toInt - x.toInt ≤ q) : ab_co (V ++ [.int z]) (ab_d2 V.length a p q) := by
  rcases a with c | (u | (k | j))
  · intro r hr; cases hr
  · intro r hr
    have hu : (V ++ [Value.int z])[u]? = some (.int x) := ab_cv_app (a := .inr (.inl u)) _ ha
    rcases List.mem_cons.mp hr with rfl | hr
    · exact ⟨z, x, ab_new V _, hu, h2⟩
    · rcases List.mem_cons.mp hr with rfl | hr
      · exact ⟨x, z, hu, ab_new V _, by simp only; omega⟩
      · cases hr
  · intro r hr; cases hr
  · intro r hr; cases hr
/-- t - a is q at most -/
def ab_d1 (t : Nat) (a : ab_V) (q : Int) : List (Nat × Nat × Int) := match a with
  | .inr (.inl u) => [(t, u, q)]
  | _ => []
theorem ab_d1_ok {V : List Value} {a : ab_V} {q : Int} {x z : Int32} (ha : ab_cv V a = some (.int x)) (h2 : z.toInt - x.toInt ≤ q) : ab_co (V ++ [.int z]) (ab_d1 V.length a q) := by
  rcases a with c | (u | (k | j))
  · intro r hr; cases hr
  · intro r hr
    rcases List.mem_cons.mp hr with rfl | hr
    · exact ⟨z, x, ab_new V _, ab_cv_app (a := .inr (.inl u)) _ ha, h2⟩
    · cases hr
  · intro r hr; cases hr
  · intro r hr; cases hr
/-- between bounds, or all ints -/
def ab_mk (lo hi : Int) (f : Nat) (C : List (Nat × Nat × Int)) : ab_R := bif ab_rng lo && ab_rng hi then (bif decide (lo = hi) then .inl (.inl lo) else .inr (.inl (lo, hi, f), C)) else .inr (ab_top, [])
theorem ab_mk_ok {n : Nat} {V : List Value} {lo hi : Int} {f : Nat} {C : List (Nat × Nat × Int)} {z : Int32} (h : ab_rng lo = true → ab_rng hi = true → lo ≤ z.toInt ∧ z.toInt ≤ hi ∧ ab_fl f z.toInt ∧ ab_co (V ++ [.int z]) C) : ab_den n V (ab_mk lo hi f C) (.int z) := by
  unfold ab_mk
  cases e1 : ab_rng lo with
  | false => exact ⟨ab_top_ok n z, fun q hq => by cases hq⟩
  | true =>
    cases e2 : ab_rng hi with
    | false => exact ⟨ab_top_ok n z, fun q hq => by cases hq⟩
    | true =>
      obtain ⟨h1, h2, h3, h4⟩ := h e1 e2
      simp only [Bool.and_self, cond_true]
      cases e3 : decide (lo = hi) with
      | true =>
        have := of_decide_eq_true e3
        show ab_cv V (.inl lo) = _
        simp only [ab_cv, e1, cond_true]
        have hz : z.toInt = lo := by omega
        rw [← hz, Int32.ofInt_toInt]
      | false => exact ⟨⟨z, rfl, h1, h2, h3⟩, h4⟩
theorem ab_no {V : List Value} : ab_co V [] := fun q hq => by cases hq
theorem ab_con {V : List Value} {C D : List (Nat × Nat × Int)} (h1 : ab_co V C) (h2 : ab_co V D) : ab_co V (C ++ D) := ab_co_two h1 h2
section OPS
variable {n : Nat} {V : List Value} {Γ : List ab_Y} {C : List (Nat × Nat × Int)} {a b : ab_V} {x y : Int32} {p q : Int × Int}
def ab_add (t : Nat) (a b : ab_V) (p q : Int × Int) : ab_R := bif decide (b = .inl 0) then .inl a else bif decide (a = .inl 0) then .inl b else ab_mk (p.1 + q.1) (p.2 + q.2) 0 (ab_d2 t a q.1 q.2 ++ ab_d2 t b p.1 p.2)
theorem ab_add_ok (ha : ab_cv V a = some (.int x)) (hb : ab_cv V b = some (.int y)) (hp : p.1 ≤ x.toInt ∧ x.toInt ≤ p.2) (hq : q.1 ≤ y.toInt ∧ y.toInt ≤ q.2) : ab_den n V (ab_add V.length a b p q) (.int (x + y)) := by
  unfold ab_add
  cases e1 : decide (b = .inl 0) with
  | true =>
    have := of_decide_eq_true e1
    subst this
    have hy : y = 0 := by cases hb; rfl
    subst hy
    show ab_cv V a = _
    rw [ha, Int32.add_zero]
  | false =>
    simp only [cond_false]
    cases e2 : decide (a = .inl 0) with
    | true =>
      have := of_decide_eq_true e2
      subst this
      have hx : x = 0 := by cases ha; rfl
      subst hx
      show ab_cv V b = _
      rw [hb, Int32.zero_add]
    | false =>
      refine ab_mk_ok fun r1 r2 => ?_
      rw [ab_rng_iff] at r1 r2
      have hz : (x + y).toInt = x.toInt + y.toInt := by rw [Int32.toInt_add, ab_bm (by omega) (by omega)]
      rw [hz]
      exact ⟨by omega, by omega, trivial, ab_con (ab_d2_ok ha (by omega) (by omega)) (ab_d2_ok hb (by omega) (by omega))⟩
def ab_mn (a : Option Int) (b : Int) : Int := match a with
  | some c => min c b
  | none => b
def ab_sub (Γ : List ab_Y) (C : List (Nat × Nat × Int)) (t : Nat) (a b : ab_V) (p q : Int × Int) : ab_R := bif decide (b = .inl 0) then .inl a else ab_mk (- ab_mn (ab_ub Γ C 3 b a) (q.2 - p.1)) (ab_mn (ab_ub Γ C 3 a b) (p.2 - q.1)) 0 (ab_d2 t a (-q.2) (-q.1))
theorem ab_mn_le {o : Option Int} {b t : Int} (h1 : ∀ c, o = some c → t ≤ c) (h2 : t ≤ b) : t ≤ ab_mn o b := by
  unfold ab_mn
  split
  · have := h1 _ rfl; omega
  · exact h2
theorem ab_sub_ok (hΓ : ab_ty n V Γ) (hC : ab_co V C) (ha : ab_cv V a = some (.int x)) (hb : ab_cv V b = some (.int y)) (hp : p.1 ≤ x.toInt ∧ x.toInt ≤ p.2) (hq : q.1 ≤ y.toInt ∧ y.toInt ≤ q.2) : ab_den n V (ab_sub Γ C V.length a b p q) (.int (x - y)) := by
  unfold ab_sub
  cases e1 : decide (b = .inl 0) with
  | true =>
    have := of_decide_eq_true e1
    subst this
    have hy : y = 0 := by cases hb; rfl
    subst hy
    show ab_cv V a = _
    rw [ha, Int32.sub_zero]
  | false =>
    have h1 : x.toInt - y.toInt ≤ ab_mn (ab_ub Γ C 3 a b) (p.2 - q.1) := ab_mn_le (fun c hc => ab_ub_ok hΓ hC 3 a b c hc x y ha hb) (by omega)
    have h2 : y.toInt - x.toInt ≤ ab_mn (ab_ub Γ C 3 b a) (q.2 - p.1) := ab_mn_le (fun c hc => ab_ub_ok hΓ hC 3 b a c hc y x hb ha) (by omega)
    refine ab_mk_ok fun r1 r2 => ?_
    rw [ab_rng_iff] at r1 r2
    have hz : (x - y).toInt = x.toInt - y.toInt := by rw [Int32.toInt_sub, ab_bm (by omega) (by omega)]
    rw [hz]
    exact ⟨by omega, by omega, trivial, ab_d2_ok ha (by omega) (by omega)⟩
def ab_min4 (a b c d : Int) : Int := min (min a b) (min c d)
def ab_max4 (a b c d : Int) : Int := max (max a b) (max c d)
def ab_mul (p q : Int × Int) : ab_R := ab_mk (ab_min4 (p.1 * q.1) (p.1 * q.2) (p.2 * q.1) (p.2 * q.2)) (ab_max4 (p.1 * q.1) (p.1 * q.2) (p.2 * q.1) (p.2 * q.2)) 0 []
theorem ab_corner {a b c d x y : Int} (h1 : a ≤ x) (h2 : x ≤ b) (h3 : c ≤ y) (h4 : y ≤ d) : ab_min4 (a * c) (a * d) (b * c) (b * d) ≤ x * y ∧ x * y ≤ ab_max4 (a * c) (a * d) (b * c) (b * d) := by
  unfold ab_min4 ab_max4
  have hlo : min (a * y) (b * y) ≤ x * y ∧ x * y ≤ max (a * y) (b * y) := by
    rcases Int.le_total 0 y with hy | hy
    · have := Int.mul_le_mul_of_nonneg_right h1 hy
      have := Int.mul_le_mul_of_nonneg_right h2 hy
      omega
    · have := Int.mul_le_mul_of_nonpos_right h1 hy
      have := Int.mul_le_mul_of_nonpos_right h2 hy
      omega
  have hs : ∀ t : Int, min (t * c) (t * d) ≤ t * y ∧ t * y ≤ max (t * c) (t * d) := by
    intro t
    rcases Int.le_total 0 t with ht | ht
    · have := Int.mul_le_mul_of_nonneg_left h3 ht
      have := Int.mul_le_mul_of_nonneg_left h4 ht
      omega
    · have := Int.mul_le_mul_of_nonpos_left ht h3
      have := Int.mul_le_mul_of_nonpos_left ht h4
      omega
  have h5 := hs a
  have h6 := hs b
  omega
theorem ab_mul_ok (hp : p.1 ≤ x.toInt ∧ x.toInt ≤ p.2) (hq : q.1 ≤ y.toInt ∧ y.toInt ≤ q.2) : ab_den n V (ab_mul p q) (.int (x * y)) := by
  unfold ab_mul
  refine ab_mk_ok fun r1 r2 => ?_
  rw [ab_rng_iff] at r1 r2
  have hc := ab_corner hp.1 hp.2 hq.1 hq.2
  have hz : (x * y).toInt = x.toInt * y.toInt := by rw [Int32.toInt_mul, ab_bm (by omega) (by omega)]
  rw [hz]
  exact ⟨hc.1, hc.2, trivial, ab_no⟩
def ab_neg (p : Int × Int) : ab_R := ab_mk (-p.2) (-p.1) 0 []
theorem ab_neg_ok (hp : p.1 ≤ x.toInt ∧ x.toInt ≤ p.2) : ab_den n V (ab_neg p) (.int (-x)) := by
  refine ab_mk_ok fun r1 r2 => ?_
  rw [ab_rng_iff] at r1 r2
  have hz : (-x).toInt = -x.toInt := by rw [Int32.toInt_neg, ab_bm (by omega) (by omega)]
  rw [hz]
  exact ⟨by omega, by omega, trivial, ab_no⟩
end OPS
end
section
/-! ===== operations on ints, over bounds: bits, quotients ===== -/
theorem ab_nn {x : Int32} (h : 0 ≤ x.toInt) : ∃ m : Nat, m < 2 ^ 31 ∧ x = nI m ∧ x.toInt = (m : Int) := by
  have h2 := x.toInt_lt
  refine ⟨x.toInt.toNat, by omega, ?_, by omega⟩
  apply Int32.toInt_inj.mp
  rw [nI_toInt (by omega)]
  omega
theorem ab_andN {m : Nat} (hm : m < 2 ^ 31) (y : Int32) : nI m &&& y = nI (m &&& y.toBitVec.toNat) := by
  apply Int32.toBitVec_inj.mp
  apply BitVec.eq_of_toNat_eq
  rw [Int32.toBitVec_and, BitVec.toNat_and, pk_tn (by omega), pk_tn]
  exact Nat.lt_of_le_of_lt Nat.and_le_left (by omega)
theorem ab_orN {a b : Nat} (ha : a < 2 ^ 31) (hb : b < 2 ^ 31) : nI a ||| nI b = nI (a ||| b) := by
  apply Int32.toBitVec_inj.mp
  apply BitVec.eq_of_toNat_eq
  rw [Int32.toBitVec_or, BitVec.toNat_or, pk_tn (by omega), pk_tn (by omega), pk_tn]
  exact Nat.lt_trans (Nat.or_lt_two_pow ha hb) (by decide)
theorem ab_or_le : ∀ (a b : Nat), a ||| b ≤ a + b := by
  intro a
  induction a using Nat.strongRecOn with
  | _ a ih =>
    intro b
    rcases Nat.eq_zero_or_pos a with rfl | ha
    · simp
    · have h1 := ih (a / 2) (by omega) (b / 2)
      have h2 : (a ||| b) / 2 = a / 2 ||| b / 2 := Nat.or_div_two
      have h3 : (a ||| b) % 2 ≤ a % 2 + b % 2 := by
        have := @Nat.or_mod_two_eq_one a b
        omega
      omega
theorem ab_s31 : ∀ c : Nat, c < 32 → ((nI c &&& 31).toBitVec.smod 32).toNat = c := by decide +kernel
section BIT
variable {n : Nat} {V : List Value} {Γ : List ab_Y} {C : List (Nat × Nat × Int)} {a b : ab_V} {x y : Int32} {p q : Int × Int} {fa : Nat}
def ab_and (b : ab_V) (fa : Nat) (p q : Int × Int) : ab_R := bif decide (0 ≤ p.1) then (bif decide (0 ≤ q.1) then (bif decide (b = .inl 15) && Nat.beq fa 2 then ab_mk 0 13 0 [] else ab_mk 0 (min p.2 q.2) 0 []) else ab_mk 0 p.2 0 [])
  else bif decide (0 ≤ q.1) then ab_mk 0 q.2 0 [] else .inr (ab_top, [])
theorem ab_and_r {y : Int32} {m : Nat} (hm : m < 2 ^ 31) : (nI m &&& y).toInt = ((m &&& y.toBitVec.toNat : Nat) : Int) := by
  rw [ab_andN hm, nI_toInt (Nat.lt_of_le_of_lt Nat.and_le_left hm)]
theorem ab_and_c (x y : Int32) : x &&& y = y &&& x := by
  apply Int32.toBitVec_inj.mp
  rw [Int32.toBitVec_and, Int32.toBitVec_and, BitVec.and_comm]
theorem ab_and_ok (hb : ab_cv V b = some (.int y)) (hf : ab_fl fa x.toInt) (hp : p.1 ≤ x.toInt ∧ x.toInt ≤ p.2) (hq : q.1 ≤ y.toInt ∧ y.toInt ≤ q.2) : ab_den n V (ab_and b fa p q) (.int (x &&& y)) := by
  have hl : 0 ≤ x.toInt → 0 ≤ (x &&& y).toInt ∧ (x &&& y).toInt ≤ x.toInt := by
    intro h0
    obtain ⟨m, hm, rfl, he⟩ := ab_nn h0
    rw [ab_and_r hm, he]
    exact ⟨Int.natCast_nonneg _, Int.ofNat_le.mpr Nat.and_le_left⟩
  have hr : 0 ≤ y.toInt → 0 ≤ (x &&& y).toInt ∧ (x &&& y).toInt ≤ y.toInt := by
    intro h0
    rw [ab_and_c]
    obtain ⟨m, hm, rfl, he⟩ := ab_nn h0
    rw [ab_and_r hm, he]
    exact ⟨Int.natCast_nonneg _, Int.ofNat_le.mpr Nat.and_le_left⟩
  unfold ab_and
  cases e1 : decide (0 ≤ p.1) with
  | true =>
    have h1 := of_decide_eq_true e1
    have h1' := hl (by omega)
    simp only [cond_true]
    cases e2 : decide (0 ≤ q.1) with
    | true =>
      have h2 := of_decide_eq_true e2
      have h2' := hr (by omega)
      simp only [cond_true]
      cases e3 : (decide (b = .inl 15) && Nat.beq fa 2) with
      | true =>
        simp only [Bool.and_eq_true, decide_eq_true_eq, Nat.beq_eq] at e3
        obtain ⟨rfl, rfl⟩ := e3
        simp only [cond_true]
        refine ab_mk_ok fun _ _ => ⟨h1'.1, ?_, trivial, ab_no⟩
        have hy : y = nI 15 := by cases hb; rfl
        have hf' := hf (by omega)
        obtain ⟨m, hm, rfl, he⟩ := ab_nn (show 0 ≤ x.toInt by omega)
        subst hy
        rw [ab_and_r hm, show (nI 15).toBitVec.toNat = 2 ^ 4 - 1 by decide, Nat.and_two_pow_sub_one_eq_mod]
        rw [he] at hf'
        omega
      | false =>
        simp only [cond_false]
        exact ab_mk_ok fun _ _ => ⟨h1'.1, by omega, trivial, ab_no⟩
    | false =>
      simp only [cond_false]
      exact ab_mk_ok fun _ _ => ⟨h1'.1, by omega, trivial, ab_no⟩
  | false =>
    simp only [cond_false]
    cases e2 : decide (0 ≤ q.1) with
    | true =>
      have h2 := of_decide_eq_true e2
      have h2' := hr (by omega)
      simp only [cond_true]
      exact ab_mk_ok fun _ _ => ⟨h2'.1, by omega, trivial, ab_no⟩
    | false => exact ⟨ab_top_ok n _, ab_no⟩
def ab_or (p q : Int × Int) : ab_R := bif decide (0 ≤ p.1) && decide (0 ≤ q.1) then ab_mk (max p.1 q.1) (p.2 + q.2) (bif decide (q.1 = q.2) && (decide (q.1 % 4096 = 0) && decide (p.2 ≤ 3583)) then 1 else 0) [] else .inr (ab_top, [])
theorem ab_or_ok (hp : p.1 ≤ x.toInt ∧ x.toInt ≤ p.2) (hq : q.1 ≤ y.toInt ∧ y.toInt ≤ q.2) : ab_den n V (ab_or p q) (.int (x ||| y)) := by
  unfold ab_or
  cases e1 : (decide (0 ≤ p.1) && decide (0 ≤ q.1)) with
  | false => exact ⟨ab_top_ok n _, ab_no⟩
  | true =>
    simp only [Bool.and_eq_true, decide_eq_true_eq] at e1
    obtain ⟨m, hm, rfl, hme⟩ := ab_nn (show 0 ≤ x.toInt by omega)
    obtain ⟨k, hk, rfl, hke⟩ := ab_nn (show 0 ≤ y.toInt by omega)
    simp only [cond_true]
    refine ab_mk_ok fun _ _ => ?_
    rw [ab_orN hm hk, nI_toInt (Nat.or_lt_two_pow hm hk)]
    have h1 := ab_or_le m k
    have h2 := @Nat.left_le_or m k
    have h3 := @Nat.right_le_or m k
    refine ⟨by omega, by omega, ?_, ab_no⟩
    cases e2 : (decide (q.1 = q.2) && (decide (q.1 % 4096 = 0) && decide (p.2 ≤ 3583))) with
    | false => exact trivial
    | true =>
      simp only [Bool.and_eq_true, decide_eq_true_eq] at e2
      intro _
      have h4 : k = 2 ^ 12 * (k / 4096) := by omega
      have h5 : m ||| k = k + m := by
        rw [Nat.or_comm, h4, ← Nat.two_pow_add_eq_or_of_lt (show m < 2 ^ 12 by omega)]
      rw [h5]
      omega
def ab_pw (c : Int) : Int := ((2 ^ c.toNat : Nat) : Int)
def ab_shl (a : ab_V) (p q : Int × Int) : ab_R := bif decide (0 ≤ q.1) && decide (q.2 ≤ 30) then (bif decide (q.1 = q.2) && decide (0 ≤ p.1) then ab_mk (p.1 * ab_pw q.1) (p.2 * ab_pw q.1) 0 [] else bif decide (a = .inl 1) then ab_mk 1 (ab_pw q.2) 0 [] else .inr (ab_top, [])) else .inr (ab_top, [])
theorem ab_shl_ok (ha : ab_cv V a = some (.int x)) (hp : p.1 ≤ x.toInt ∧ x.toInt ≤ p.2) (hq : q.1 ≤ y.toInt ∧ y.toInt ≤ q.2) : ab_den n V (ab_shl a p q) (.int (x <<< (y &&& 31))) := by
  unfold ab_shl
  cases e1 : (decide (0 ≤ q.1) && decide (q.2 ≤ 30)) with
  | false => exact ⟨ab_top_ok n _, ab_no⟩
  | true =>
    simp only [Bool.and_eq_true, decide_eq_true_eq] at e1
    obtain ⟨k, hk, rfl, hke⟩ := ab_nn (show 0 ≤ y.toInt by omega)
    simp only [cond_true]
    cases e2 : (decide (q.1 = q.2) && decide (0 ≤ p.1)) with
    | true =>
      simp only [Bool.and_eq_true, decide_eq_true_eq] at e2
      obtain ⟨m, hm, rfl, hme⟩ := ab_nn (show 0 ≤ x.toInt by omega)
      simp only [cond_true]
      have hk1 : q.1 = (k : Int) := by omega
      have hpw : ab_pw q.1 = ((2 ^ k : Nat) : Int) := by rw [hk1]; rfl
      refine ab_mk_ok fun r1 r2 => ?_
      rw [ab_rng_iff] at r1 r2
      rw [hpw] at r1 r2 ⊢
      have h0 : (0 : Int) ≤ ((2 ^ k : Nat) : Int) := Int.natCast_nonneg _
      have h1 : p.1 * ((2 ^ k : Nat) : Int) ≤ (m : Int) * ((2 ^ k : Nat) : Int) := Int.mul_le_mul_of_nonneg_right (by omega) h0
      have h2 : (m : Int) * ((2 ^ k : Nat) : Int) ≤ p.2 * ((2 ^ k : Nat) : Int) := Int.mul_le_mul_of_nonneg_right (by omega) h0
      have h3 : ((m * 2 ^ k : Nat) : Int) = (m : Int) * ((2 ^ k : Nat) : Int) := Int.natCast_mul _ _
      rw [pk_shlN (nI k &&& 31) k (ab_s31 k (by omega)) (by omega), nI_toInt (by omega), h3]
      exact ⟨h1, h2, trivial, ab_no⟩
    | false =>
      simp only [cond_false]
      cases e3 : decide (a = .inl 1) with
      | false => exact ⟨ab_top_ok n _, ab_no⟩
      | true =>
        have := of_decide_eq_true e3
        subst this
        have hx : x = nI 1 := by cases ha; rfl
        subst hx
        simp only [cond_true]
        refine ab_mk_ok fun r1 r2 => ?_
        have hk30 : k ≤ 30 := by omega
        have h1 : 2 ^ k ≤ 2 ^ 30 := Nat.pow_le_pow_right (by decide) hk30
        rw [pk_shlN (nI k &&& 31) k (ab_s31 k (by omega)) (by omega), Nat.one_mul, nI_toInt (by omega)]
        have h2 : 2 ^ k ≤ 2 ^ q.2.toNat := Nat.pow_le_pow_right (by decide) (by omega)
        have h3 := Nat.two_pow_pos k
        exact ⟨by omega, Int.ofNat_le.mpr h2, trivial, ab_no⟩
def ab_shr (t : Nat) (a : ab_V) (fa : Nat) (p q : Int × Int) : ab_R := bif decide (q.1 = q.2) && (decide (0 ≤ q.1) && decide (q.1 ≤ 31)) then ab_mk (p.1 / ab_pw q.1) (p.2 / ab_pw q.1) (bif Nat.beq fa 1 && (decide (q.1 = 8) && decide (0 ≤ p.1)) then 2 else 0) (bif decide (1 ≤ p.1) && decide (1 ≤ q.1) then ab_d1 t a (-1) else [])
  else bif decide (0 ≤ p.1) then ab_mk 0 p.2 0 [] else .inr (ab_top, [])
theorem ab_shr_ok (ha : ab_cv V a = some (.int x)) (hf : ab_fl fa x.toInt) (hp : p.1 ≤ x.toInt ∧ x.toInt ≤ p.2) (hq : q.1 ≤ y.toInt ∧ y.toInt ≤ q.2) : ab_den n V (ab_shr V.length a fa p q) (.int (x >>> (y &&& 31))) := by
  unfold ab_shr
  cases e1 : (decide (q.1 = q.2) && (decide (0 ≤ q.1) && decide (q.1 ≤ 31))) with
  | true =>
    simp only [Bool.and_eq_true, decide_eq_true_eq] at e1
    obtain ⟨k, hk, rfl, hke⟩ := ab_nn (show 0 ≤ y.toInt by omega)
    have hk1 : q.1 = (k : Int) := by omega
    have hpw : ab_pw q.1 = ((2 ^ k : Nat) : Int) := by rw [hk1]; rfl
    simp only [cond_true]
    refine ab_mk_ok fun r1 r2 => ?_
    have hz : (x >>> (nI k &&& 31)).toInt = x.toInt / ((2 ^ k : Nat) : Int) := by
      rw [pk_shr x (nI k &&& 31) k (ab_s31 k (by omega)), Int.shiftRight_eq_div_pow]
    rw [hpw]
    have hpos : (0 : Int) < ((2 ^ k : Nat) : Int) := Int.natCast_pos.mpr (Nat.two_pow_pos k)
    refine ⟨?_, ?_, ?_, ?_⟩
    · rw [hz]; exact Int.ediv_le_ediv hpos hp.1
    · rw [hz]; exact Int.ediv_le_ediv hpos hp.2
    · cases e2 : (Nat.beq fa 1 && (decide (q.1 = 8) && decide (0 ≤ p.1))) with
      | false => exact trivial
      | true =>
        simp only [Bool.and_eq_true, decide_eq_true_eq, Nat.beq_eq] at e2
        obtain ⟨rfl, h8, h0⟩ := e2
        intro _
        have hk8 : k = 8 := by omega
        subst hk8
        rw [hz]
        exact hf (by omega)
    · cases e2 : (decide (1 ≤ p.1) && decide (1 ≤ q.1)) with
      | false => exact ab_no
      | true =>
        simp only [Bool.and_eq_true, decide_eq_true_eq] at e2
        refine ab_d1_ok ha ?_
        rw [hz]
        have h2 : (2 : Int) ≤ ((2 ^ k : Nat) : Int) := by
          have : 2 ^ 1 ≤ 2 ^ k := Nat.pow_le_pow_right (by decide) (by omega)
          omega
        have h3 : x.toInt / ((2 ^ k : Nat) : Int) < x.toInt := Int.ediv_lt_self_of_pos_of_ne_one (by omega) (by omega)
        omega
  | false =>
    simp only [cond_false]
    cases e2 : decide (0 ≤ p.1) with
    | false => exact ⟨ab_top_ok n _, ab_no⟩
    | true =>
      have h0 := of_decide_eq_true e2
      simp only [cond_true]
      refine ab_mk_ok fun r1 r2 => ?_
      rw [pk_shr x (y &&& 31) _ rfl, Int.shiftRight_eq_div_pow]
      have h1 : 0 ≤ x.toInt := by omega
      have h2 : x.toInt / ((2 ^ ((y &&& 31).toBitVec.smod 32).toNat : Nat) : Int) ≤ x.toInt := Int.ediv_le_self _ h1
      exact ⟨Int.ediv_nonneg h1 (Int.natCast_nonneg _), by omega, trivial, ab_no⟩
def ab_div (t : Nat) (a : ab_V) (p q : Int × Int) : Option ab_R := bif decide (1 ≤ q.1) then some (bif decide (0 ≤ p.1) then ab_mk (bif decide (q.1 = q.2) then p.1 / q.1 else 0) (p.2 / q.1) 0 (bif decide (1 ≤ p.1) && decide (2 ≤ q.1) then ab_d1 t a (-1) else []) else .inr (ab_top, [])) else none
theorem ab_div_e {x y : Int32} (h0 : 0 ≤ x.toInt) (h1 : 1 ≤ y.toInt) : (x / y).toInt = x.toInt / y.toInt := by
  rw [Int32.toInt_div_of_ne_right x y (fun h => by rw [h] at h1; exact absurd h1 (by decide)), Int.tdiv_eq_ediv_of_nonneg h0]
theorem ab_div_ok {r : ab_R} (ha : ab_cv V a = some (.int x)) (hp : p.1 ≤ x.toInt ∧ x.toInt ≤ p.2) (hq : q.1 ≤ y.toInt ∧ y.toInt ≤ q.2) (h : ab_div V.length a p q = some r) : y ≠ 0 ∧ ab_den n V r (.int (x / y)) := by
  unfold ab_div at h
  cases e1 : decide (1 ≤ q.1) with
  | false => rw [e1] at h; cases h
  | true =>
    rw [e1] at h
    obtain rfl := Option.some.inj h
    have h1 := of_decide_eq_true e1
    refine ⟨fun h => by rw [h] at hq; have : (0 : Int32).toInt = 0 := rfl; omega, ?_⟩
    cases e2 : decide (0 ≤ p.1) with
    | false => exact ⟨ab_top_ok n _, ab_no⟩
    | true =>
      have h2 := of_decide_eq_true e2
      simp only [cond_true]
      refine ab_mk_ok fun r1 r2 => ?_
      have hz := ab_div_e (x := x) (y := y) (by omega) (by omega)
      rw [hz]
      refine ⟨?_, ?_, trivial, ?_⟩
      · cases e3 : decide (q.1 = q.2) with
        | true =>
          have h3 := of_decide_eq_true e3
          have h4 : y.toInt = q.1 := by omega
          simp only [cond_true]
          rw [h4]
          exact Int.ediv_le_ediv (by omega) hp.1
        | false => exact Int.ediv_nonneg (by omega) (by omega)
      · have h4 : x.toInt / y.toInt ≤ x.toInt / q.1 := by
          have hy0 : 0 < y.toInt := by omega
          have hq0 : 0 < q.1 := by omega
          rw [Int.le_ediv_iff_mul_le hq0]
          have h5 : x.toInt / y.toInt * q.1 ≤ x.toInt / y.toInt * y.toInt := Int.mul_le_mul_of_nonneg_left hq.1 (Int.ediv_nonneg (by omega) (by omega))
          have h6 := Int.ediv_mul_le x.toInt (show y.toInt ≠ 0 by omega)
          omega
        have h5 : x.toInt / q.1 ≤ p.2 / q.1 := Int.ediv_le_ediv (by omega) hp.2
        omega
      · cases e3 : (decide (1 ≤ p.1) && decide (2 ≤ q.1)) with
        | false => exact ab_no
        | true =>
          simp only [Bool.and_eq_true, decide_eq_true_eq] at e3
          refine ab_d1_ok ha ?_
          rw [hz]
          have h3 : x.toInt / y.toInt < x.toInt := Int.ediv_lt_self_of_pos_of_ne_one (by omega) (by omega)
          omega
def ab_rem (t : Nat) (b : ab_V) (p q : Int × Int) : Option ab_R := bif decide (1 ≤ q.1) then some (bif decide (0 ≤ p.1) then (bif decide (q.1 = q.2) && decide (p.1 / q.1 = p.2 / q.1) then ab_mk (p.1 % q.1) (p.2 % q.1) 0 [] else ab_mk 0 (min p.2 (q.2 - 1)) 0 (ab_d1 t b (-1))) else ab_mk (-(q.2 - 1)) (q.2 - 1) 0 []) else none
theorem ab_emod_le {a b : Int} (h : 0 ≤ a) (hb : 0 < b) : a % b ≤ a := by
  have h1 := Int.mul_ediv_add_emod a b
  have h2 := Int.mul_nonneg (Int.le_of_lt hb) (Int.ediv_nonneg h (Int.le_of_lt hb))
  omega
theorem ab_rem_e {x y : Int32} (h1 : 1 ≤ y.toInt) : (x - x / y * y).toInt = x.toInt.tmod y.toInt := by
  have hd : (x / y).toInt = x.toInt.tdiv y.toInt := Int32.toInt_div_of_ne_right x y (fun h => by rw [h] at h1; exact absurd h1 (by decide))
  have he := Int.mul_tdiv_add_tmod x.toInt y.toInt
  have hx1 := x.le_toInt
  have hx2 := x.toInt_lt
  have hb : (x / y * y).toInt = y.toInt * x.toInt.tdiv y.toInt := by
    have hm : (x.toInt.tmod y.toInt).natAbs ≤ x.toInt.natAbs := by
      rcases Int.le_total 0 x.toInt with h | h
      · have h2 := Int.tmod_nonneg y.toInt h
        have h3 : x.toInt.tmod y.toInt ≤ x.toInt := by
          rw [Int.tmod_eq_emod_of_nonneg h]
          exact ab_emod_le h (by omega)
        omega
      · have e := Int.neg_tmod (-x.toInt) y.toInt
        rw [Int.neg_neg] at e
        have h2 := Int.tmod_nonneg y.toInt (show 0 ≤ -x.toInt by omega)
        have h3 : (-x.toInt).tmod y.toInt ≤ -x.toInt := by
          rw [Int.tmod_eq_emod_of_nonneg (by omega)]
          exact ab_emod_le (by omega) (by omega)
        omega
    have hs : 0 ≤ x.toInt → 0 ≤ x.toInt.tmod y.toInt := Int.tmod_nonneg y.toInt
    have hs2 : x.toInt ≤ 0 → x.toInt.tmod y.toInt ≤ 0 := by
      intro h
      have e := Int.neg_tmod (-x.toInt) y.toInt
      rw [Int.neg_neg] at e
      have h2 := Int.tmod_nonneg y.toInt (show 0 ≤ -x.toInt by omega)
      omega
    rw [Int32.toInt_mul, hd, Int.mul_comm, ab_bm (by omega) (by omega)]
  have hr : x.toInt - y.toInt * x.toInt.tdiv y.toInt = x.toInt.tmod y.toInt := by omega
  have hlt : (x.toInt.tmod y.toInt).natAbs < y.toInt.natAbs := by
    rw [Int.natAbs_tmod]
    exact Nat.mod_lt _ (by omega)
  have hy2 := y.toInt_lt
  rw [Int32.toInt_sub, hb, hr, ab_bm (by omega) (by omega)]
theorem ab_rem_ok {r : ab_R} (hb : ab_cv V b = some (.int y)) (hp : p.1 ≤ x.toInt ∧ x.toInt ≤ p.2) (hq : q.1 ≤ y.toInt ∧ y.toInt ≤ q.2) (h : ab_rem V.length b p q = some r) : y ≠ 0 ∧ ab_den n V r (.int (x - x / y * y)) := by
  unfold ab_rem at h
  cases e1 : decide (1 ≤ q.1) with
  | false => rw [e1] at h; cases h
  | true =>
    rw [e1] at h
    obtain rfl := Option.some.inj h
    have h1 := of_decide_eq_true e1
    refine ⟨fun h => by rw [h] at hq; have : (0 : Int32).toInt = 0 := rfl; omega, ?_⟩
    have hz := ab_rem_e (x := x) (y := y) (by omega)
    cases e2 : decide (0 ≤ p.1) with
    | true =>
      have h2 := of_decide_eq_true e2
      have hx0 : 0 ≤ x.toInt := by omega
      rw [Int.tmod_eq_emod_of_nonneg hx0] at hz
      have m1 := Int.emod_nonneg x.toInt (show y.toInt ≠ 0 by omega)
      have m2 := Int.emod_lt_of_pos x.toInt (show 0 < y.toInt by omega)
      have m3 := ab_emod_le (b := y.toInt) hx0 (by omega)
      simp only [cond_true]
      cases e3 : (decide (q.1 = q.2) && decide (p.1 / q.1 = p.2 / q.1)) with
      | true =>
        simp only [Bool.and_eq_true, decide_eq_true_eq] at e3
        have hyq : y.toInt = q.1 := by omega
        simp only [cond_true]
        refine ab_mk_ok fun r1 r2 => ?_
        rw [hz, hyq]
        have d1 : p.1 / q.1 ≤ x.toInt / q.1 := Int.ediv_le_ediv (by omega) hp.1
        have d2 : x.toInt / q.1 ≤ p.2 / q.1 := Int.ediv_le_ediv (by omega) hp.2
        have d3 : x.toInt / q.1 = p.1 / q.1 := by omega
        have e4 := Int.mul_ediv_add_emod x.toInt q.1
        have e5 := Int.mul_ediv_add_emod p.1 q.1
        have e6 := Int.mul_ediv_add_emod p.2 q.1
        rw [d3] at e4
        rw [← e3.2] at e6
        exact ⟨by omega, by omega, trivial, ab_no⟩
      | false =>
        simp only [cond_false]
        refine ab_mk_ok fun r1 r2 => ?_
        rw [hz]
        refine ⟨m1, by omega, trivial, ab_d1_ok hb ?_⟩
        rw [hz]; omega
    | false =>
      simp only [cond_false]
      refine ab_mk_ok fun r1 r2 => ?_
      rw [hz]
      have hlt : (x.toInt.tmod y.toInt).natAbs < y.toInt.natAbs := by
        rw [Int.natAbs_tmod]
        exact Nat.mod_lt _ (by omega)
      exact ⟨by omega, by omega, trivial, ab_no⟩
def ab_i2b (a : ab_V) (p : Int × Int) : ab_R := bif decide (-128 ≤ p.1) && decide (p.2 ≤ 127) then .inl a else ab_mk (-128) 127 0 []
theorem ab_i2b_ok (ha : ab_cv V a = some (.int x)) (hp : p.1 ≤ x.toInt ∧ x.toInt ≤ p.2) : ab_den n V (ab_i2b a p) (.int x.toInt8.toInt32) := by
  unfold ab_i2b
  cases e1 : (decide (-128 ≤ p.1) && decide (p.2 ≤ 127)) with
  | true =>
    simp only [Bool.and_eq_true, decide_eq_true_eq] at e1
    show ab_cv V a = _
    rw [ha]
    congr 2
    apply Int32.toInt_inj.mp
    rw [Int8.toInt_toInt32, Int32.toInt_toInt8]
    exact (Int.bmod_eq_of_le (by omega) (by omega)).symm
  | false =>
    simp only [cond_false]
    refine ab_mk_ok fun r1 r2 => ?_
    rw [Int8.toInt_toInt32]
    have h1 := x.toInt8.le_toInt
    have h2 := x.toInt8.toInt_lt
    exact ⟨by omega, by omega, trivial, ab_no⟩
end BIT
end
section
/-! ===== types of values; what a comparison tells ===== -/
def ab_let : List Int := [73, 86, 88, 76, 67, 68, 77, 105, 118, 120, 108, 99, 100, 109]
def ab_fge (a b : Int) (f g : Nat) : Bool := Nat.beq g 0 || (Nat.beq g f || match g with
  | 1 => decide (b ≤ 3583)
  | 2 => decide (b ≤ 13)
  | 3 => decide (a = b) && ab_let.contains a
  | _ => true)
theorem ab_fge_ok {a b : Int} {f g : Nat} (h : ab_fge a b f g = true) {x : Int} (h1 : a ≤ x) (h2 : x ≤ b) (hf : ab_fl f x) : ab_fl g x := by
  simp only [ab_fge, Bool.or_eq_true, Nat.beq_eq] at h
  rcases h with rfl | rfl | h
  · exact trivial
  · exact hf
  · match g, h with
    | 0, _ => exact trivial
    | 1, h => have := of_decide_eq_true h; intro _; omega
    | 2, h => have := of_decide_eq_true h; intro _; omega
    | 3, h =>
      simp only [Bool.and_eq_true, decide_eq_true_eq] at h
      have hx : x = a := by omega
      rw [hx]
      exact List.contains_iff_mem.mp h.2
    | g + 4, _ => exact trivial
def ab_le (τ σ : ab_Y) : Bool := match τ, σ with
  | .inl (a, b, f), .inl (c, d, g) => decide (c ≤ a) && (decide (b ≤ d) && ab_fge a b f g)
  | .inr none, .inr none => true
  | .inr (some M), .inr (some N) => Nat.beq (M &&& N) M
  | _, _ => false
theorem ab_le_ok {n : Nat} {v : Value} {τ σ : ab_Y} (h : ab_le τ σ = true) (hv : ab_ok n v τ) : ab_ok n v σ := by
  rcases τ with ⟨a, b, f⟩ | (_ | M) <;> rcases σ with ⟨c, d, g⟩ | (_ | N)
  · simp only [ab_le, Bool.and_eq_true, decide_eq_true_eq] at h
    obtain ⟨x, e, h1, h2, h3⟩ := hv
    exact ⟨x, e, by omega, by omega, ab_fge_ok h.2.2 h1 h2 h3⟩
  · cases h
  · cases h
  · cases h
  · exact hv
  · cases h
  · cases h
  · cases h
  · obtain ⟨k, e, h1, h2⟩ := hv
    have hm : M &&& N = M := by simpa [ab_le, Nat.beq_eq] using h
    refine ⟨k, e, h1, ?_⟩
    rw [← hm, Nat.testBit_and, Bool.and_eq_true] at h2
    exact h2.2
/-- the type of a value -/
def ab_to (Γ : List ab_Y) : ab_V → Option ab_Y
  | .inl c => bif ab_rng c then some (.inl (c, c, 0)) else none
  | .inr (.inl u) => Γ[u]?
  | .inr (.inr (.inl k)) => bif Nat.blt k 573 then some (.inr (some (2 ^ ab_k k))) else none
  | .inr (.inr (.inr _)) => none
theorem ab_to_ok {n : Nat} {V : List Value} {Γ : List ab_Y} (hn : 573 ≤ n) (hΓ : ab_ty n V Γ) {a : ab_V} {τ : ab_Y} (h : ab_to Γ a = some τ) {v : Value} (hv : ab_cv V a = some v) : ab_ok n v τ := by
  rcases a with c | (u | (k | j))
  · simp only [ab_to, ab_cv] at h hv
    cases e : ab_rng c with
    | false => rw [e] at h; cases h
    | true =>
      rw [e] at h hv
      cases h
      cases hv
      exact ⟨_, rfl, by rw [ab_rng_ok e]; exact ⟨Int.le_refl _, Int.le_refl _, trivial⟩⟩
  · obtain ⟨w, h1, h2⟩ := hΓ.2 u τ h
    have : w = v := Option.some.inj (h1.symm.trans hv)
    exact this ▸ h2
  · simp only [ab_to] at h
    cases e : Nat.blt k 573 with
    | false => rw [e] at h; cases h
    | true =>
      rw [e] at h
      cases h
      cases hv
      have : k < 573 := by simpa [Nat.blt_eq] using e
      exact ⟨k, rfl, by omega, by simp⟩
  · cases h
def ab_is (Γ : List ab_Y) (a : ab_V) (σ : ab_Y) : Bool := match ab_to Γ a with
  | some τ => ab_le τ σ
  | none => false
theorem ab_is_ok {n : Nat} {V : List Value} {Γ : List ab_Y} (hn : 573 ≤ n) (hΓ : ab_ty n V Γ) {a : ab_V} {σ : ab_Y} (h : ab_is Γ a σ = true) {v : Value} (hv : ab_cv V a = some v) : ab_ok n v σ := by
  unfold ab_is at h
  split at h
  · rename_i τ hτ
    exact ab_le_ok h (ab_to_ok hn hΓ hτ hv)
  · cases h
/-- a value is between bounds -/
def ab_lim (Γ : List ab_Y) (a : ab_V) (lo hi : Int) : Option (List ab_Y) := match a with
  | .inl c => bif decide (lo ≤ c) && decide (c ≤ hi) then some Γ else none
  | .inr (.inl u) => match Γ[u]? with
    | some (.inl (l, h, f)) => bif decide (max l lo ≤ min h hi) then some (Γ.set u (.inl (max l lo, min h hi, f))) else none
    | _ => some Γ
  | _ => some Γ
theorem ab_lim_ok {n : Nat} {V : List Value} {Γ : List ab_Y} (hΓ : ab_ty n V Γ) {a : ab_V} {x : Int32} (ha : ab_cv V a = some (.int x)) {lo hi : Int} (h1 : lo ≤ x.toInt) (h2 : x.toInt ≤ hi) : ∃ Γ', ab_lim Γ a lo hi = some Γ' ∧ ab_ty n V Γ' := by
  rcases a with c | (u | (k | j))
  · simp only [ab_cv] at ha
    cases e : ab_rng c with
    | false => rw [e] at ha; cases ha
    | true =>
      rw [e] at ha
      cases ha
      rw [ab_rng_ok e] at h1 h2
      refine ⟨Γ, ?_, hΓ⟩
      simp only [ab_lim, decide_eq_true h1, decide_eq_true h2, Bool.and_self, cond_true]
  · simp only [ab_lim]
    split
    · rename_i l h f hu
      obtain ⟨w, e1, y, e2, e3, e4, e5⟩ := hΓ.2 u _ hu
      have hw : w = .int x := Option.some.inj (e1.symm.trans ha)
      have hy : y = x := by rw [e2] at hw; cases hw; rfl
      subst hy
      have hd : max l lo ≤ min h hi := by omega
      refine ⟨Γ.set u (.inl (max l lo, min h hi, f)), by simp only [decide_eq_true hd, cond_true], by simp [hΓ.1], fun r τ hr => ?_⟩
      by_cases hru : r = u
      · subst hru
        have hlt : r < Γ.length := (List.getElem?_eq_some_iff.mp hu).1
        rw [List.getElem?_set_self hlt] at hr
        cases hr
        exact ⟨w, e1, y, e2, by omega, by omega, e5⟩
      · rw [List.getElem?_set_ne (fun q => hru q.symm)] at hr
        exact hΓ.2 r τ hr
    · exact ⟨Γ, rfl, hΓ⟩
  · exact ⟨Γ, rfl, hΓ⟩
  · exact ⟨Γ, rfl, hΓ⟩
def ab_lm2 (Γ : List ab_Y) (a : ab_V) (lo hi : Int) (b : ab_V) (lo' hi' : Int) : Option (List ab_Y) := match ab_lim Γ a lo hi with
  | some Γ1 => ab_lim Γ1 b lo' hi'
  | none => none
theorem ab_lm2_ok {n : Nat} {V : List Value} {Γ : List ab_Y} (hΓ : ab_ty n V Γ) {a b : ab_V} {x y : Int32} (ha : ab_cv V a = some (.int x)) (hb : ab_cv V b = some (.int y)) {lo hi lo' hi' : Int} (h1 : lo ≤ x.toInt) (h2 : x.toInt ≤ hi) (h3 : lo' ≤ y.toInt) (h4 : y.toInt ≤ hi') :
    ∃ Γ', ab_lm2 Γ a lo hi b lo' hi' = some Γ' ∧ ab_ty n V Γ' := by
  obtain ⟨Γ1, e1, t1⟩ := ab_lim_ok hΓ ha h1 h2
  obtain ⟨Γ2, e2, t2⟩ := ab_lim_ok t1 hb h3 h4
  exact ⟨Γ2, by simp only [ab_lm2, e1, e2], t2⟩
/-- a - b is c at most, of symbols -/
def ab_dd (a b : ab_V) (c : Int) : List (Nat × Nat × Int) := match a, b with
  | .inr (.inl u), .inr (.inl w) => [(u, w, c)]
  | _, _ => []
theorem ab_dd_ok {V : List Value} {a b : ab_V} {x y : Int32} {c : Int} (ha : ab_cv V a = some (.int x)) (hb : ab_cv V b = some (.int y)) (h : x.toInt - y.toInt ≤ c) : ab_co V (ab_dd a b c) := by
  unfold ab_dd
  split
  · intro q hq
    rcases List.mem_cons.mp hq with rfl | hq
    · exact ⟨x, y, ha, hb, h⟩
    · cases hq
  · exact ab_no
def ab_ng : ClassFile.Cond → ClassFile.Cond
  | .eq => .ne | .ne => .eq | .lt => .ge | .ge => .lt | .gt => .le | .le => .gt
theorem ab_ng_ok {c : ClassFile.Cond} {x y : Int32} (h : ¬ ax_holds c x y) : ax_holds (ab_ng c) x y := by
  cases c with
  | eq => exact h
  | ne => exact Classical.byContradiction h
  | lt => exact Int32.not_lt.mp h
  | ge => exact Int32.not_le.mp h
  | gt => exact Int32.not_lt.mp h
  | le => exact Int32.not_le.mp h
def ab_fg (Γ : List ab_Y) : ab_V → Nat
  | .inr (.inl u) => match Γ[u]? with
    | some (.inl (_, _, f)) => f
    | _ => 0
  | _ => 0
theorem ab_fg_ok {n : Nat} {V : List Value} {Γ : List ab_Y} (hΓ : ab_ty n V Γ) {a : ab_V} {x : Int32} (ha : ab_cv V a = some (.int x)) : ab_fl (ab_fg Γ a) x.toInt := by
  rcases a with c | (u | (k | j))
  · exact trivial
  · simp only [ab_fg]
    split
    · rename_i lo hi f hu
      obtain ⟨w, h1, y, rfl, -, -, h2⟩ := hΓ.2 u _ hu
      have := h1.symm.trans ha
      cases this
      exact h2
    · exact trivial
  · exact trivial
  · exact trivial
/-- a value is a sign's letter -/
def ab_f3 (Γ : List ab_Y) (a : ab_V) : List ab_Y := match a with
  | .inr (.inl u) => match Γ[u]? with
    | some (.inl (l, h, _)) => Γ.set u (.inl (l, h, 3))
    | _ => Γ
  | _ => Γ
theorem ab_f3_ok {n : Nat} {V : List Value} {Γ : List ab_Y} (hΓ : ab_ty n V Γ) {a : ab_V} {x : Int32} (ha : ab_cv V a = some (.int x)) (hx : ab_fl 3 x.toInt) : ab_ty n V (ab_f3 Γ a) := by
  rcases a with c | (u | (k | j))
  · exact hΓ
  · simp only [ab_f3]
    split
    · rename_i l h f hu
      obtain ⟨w, e1, y, e2, e3, e4, e5⟩ := hΓ.2 u _ hu
      have hw : w = .int x := Option.some.inj (e1.symm.trans ha)
      have hy : y = x := by rw [e2] at hw; cases hw; rfl
      subst hy
      refine ⟨by simp [hΓ.1], fun r τ hr => ?_⟩
      by_cases hru : r = u
      · subst hru
        have hlt : r < Γ.length := (List.getElem?_eq_some_iff.mp hu).1
        rw [List.getElem?_set_self hlt] at hr
        cases hr
        exact ⟨w, e1, y, e2, e3, e4, hx⟩
      · rw [List.getElem?_set_ne (fun q => hru q.symm)] at hr
        exact hΓ.2 r τ hr
    · exact hΓ
  · exact hΓ
  · exact hΓ
/-- no new difference goes against what is known -/
def ab_ctr (Γ : List ab_Y) (C D : List (Nat × Nat × Int)) : Bool := D.all fun e => match ab_ub Γ C 3 (.inr (.inl e.2.1)) (.inr (.inl e.1)) with
  | some d => decide (0 ≤ d + e.2.2)
  | none => true
theorem ab_ctr_ok {n : Nat} {V : List Value} {Γ : List ab_Y} {C D : List (Nat × Nat × Int)} (hΓ : ab_ty n V Γ) (hC : ab_co V C) (hD : ab_co V D) : ab_ctr Γ C D = true := by
  refine List.all_eq_true.mpr fun e he => ?_
  obtain ⟨x, y, h1, h2, h3⟩ := hD e he
  split
  · rename_i d hd
    have := ab_ub_ok hΓ hC 3 _ _ d hd y x h2 h1
    exact decide_eq_true (by omega)
  · rfl
/-- what bounds of one symbol say of its neighbours -/
def ab_pr1 (z : Nat) (o : Option (List ab_Y)) (e : Nat × Nat × Int) : Option (List ab_Y) := match (match o with
    | none => none
    | some Γ => bif Nat.beq e.2.1 z then (match ab_iv Γ (.inr (.inl z)) with
        | some p => ab_lim Γ (.inr (.inl e.1)) (-2147483648) (p.2 + e.2.2)
        | none => some Γ) else some Γ) with
  | none => none
  | some Γ => bif Nat.beq e.1 z then (match ab_iv Γ (.inr (.inl z)) with
      | some p => ab_lim Γ (.inr (.inl e.2.1)) (p.1 - e.2.2) 2147483647
      | none => some Γ) else some Γ
def ab_pr (C : List (Nat × Nat × Int)) (a : ab_V) (Γ : List ab_Y) : Option (List ab_Y) := match a with
  | .inr (.inl z) => C.foldl (ab_pr1 z) (some Γ)
  | _ => some Γ
theorem ab_pr_ok {n : Nat} {V : List Value} {C : List (Nat × Nat × Int)} (hC : ab_co V C) (a : ab_V) {Γ : List ab_Y} (hΓ : ab_ty n V Γ) : ∃ Γ', ab_pr C a Γ = some Γ' ∧ ab_ty n V Γ' := by
  rcases a with c | (z | (k | j))
  · exact ⟨Γ, rfl, hΓ⟩
  · show ∃ Γ', C.foldl (ab_pr1 z) (some Γ) = some Γ' ∧ _
    have hone : ∀ (e : Nat × Nat × Int) (Γ : List ab_Y), (∃ x y : Int32, V[e.1]? = some (.int x) ∧ V[e.2.1]? = some (.int y) ∧ x.toInt - y.toInt ≤ e.2.2) → ab_ty n V Γ → ∃ Γ', ab_pr1 z (some Γ) e = some Γ' ∧ ab_ty n V Γ' := by
      intro e Γ he hΓ
      obtain ⟨x, y, h1, h2, h3⟩ := he
      have hx1 := x.le_toInt
      have hx2 := x.toInt_lt
      have hy1 := y.le_toInt
      have hy2 := y.toInt_lt
      have key : ∃ Γ1, (bif Nat.beq e.2.1 z then (match ab_iv Γ (.inr (.inl z)) with
          | some p => ab_lim Γ (.inr (.inl e.1)) (-2147483648) (p.2 + e.2.2)
          | none => some Γ) else some Γ) = some Γ1 ∧ ab_ty n V Γ1 := by
        cases ez : Nat.beq e.2.1 z with
        | false => exact ⟨Γ, rfl, hΓ⟩
        | true =>
          have ez' : e.2.1 = z := by simpa [Nat.beq_eq] using ez
          simp only [cond_true]
          split
          · rename_i p hp
            obtain ⟨y', e1, -, e2⟩ := ab_iv_ok hΓ hp (show ab_cv V (.inr (.inl z)) = some (.int y) by rw [← ez']; exact h2)
            cases e1
            exact ab_lim_ok hΓ (show ab_cv V (.inr (.inl e.1)) = some (.int x) from h1) (by omega) (by omega)
          · exact ⟨Γ, rfl, hΓ⟩
      obtain ⟨Γ1, k1, k2⟩ := key
      unfold ab_pr1
      simp only [k1]
      cases ez : Nat.beq e.1 z with
      | false => exact ⟨Γ1, rfl, k2⟩
      | true =>
        have ez' : e.1 = z := by simpa [Nat.beq_eq] using ez
        simp only [cond_true]
        split
        · rename_i p hp
          obtain ⟨x', e1, e2, -⟩ := ab_iv_ok k2 hp (show ab_cv V (.inr (.inl z)) = some (.int x) by rw [← ez']; exact h1)
          cases e1
          exact ab_lim_ok k2 (show ab_cv V (.inr (.inl e.2.1)) = some (.int y) from h2) (by omega) (by omega)
        · exact ⟨Γ1, rfl, k2⟩
    have : ∀ (L : List (Nat × Nat × Int)) (Γ : List ab_Y), ab_co V L → ab_ty n V Γ → ∃ Γ', L.foldl (ab_pr1 z) (some Γ) = some Γ' ∧ ab_ty n V Γ' := by
      intro L
      induction L with
      | nil => intro Γ _ h; exact ⟨Γ, rfl, h⟩
      | cons e L ih =>
        intro Γ hL h
        obtain ⟨Γ1, k1, k2⟩ := hone e Γ (hL e List.mem_cons_self) h
        rw [List.foldl_cons, k1]
        exact ih Γ1 (fun q hq => hL q (List.mem_cons_of_mem _ hq)) k2
    exact this C Γ hC hΓ
  · exact ⟨Γ, rfl, hΓ⟩
  · exact ⟨Γ, rfl, hΓ⟩
/-- bounds, then new differences, then what follows -/
def ab_fin (C : List (Nat × Nat × Int)) (a b : ab_V) (o : Option (List ab_Y)) (D : List ab_Y → List (Nat × Nat × Int)) : Option (List ab_Y × List (Nat × Nat × Int)) := match o with
  | none => none
  | some Γ => bif ab_ctr Γ C (D Γ) then (match ab_pr C a Γ with
      | none => none
      | some Γ1 => match ab_pr C b Γ1 with
        | none => none
        | some Γ2 => some (Γ2, D Γ ++ C)) else none
theorem ab_fin_ok {n : Nat} {V : List Value} {C : List (Nat × Nat × Int)} (hC : ab_co V C) (a b : ab_V) {o : Option (List ab_Y)} (ho : ∃ Γ, o = some Γ ∧ ab_ty n V Γ) {D : List ab_Y → List (Nat × Nat × Int)} (hD : ∀ Γ, ab_ty n V Γ → ab_co V (D Γ)) : ∃ r, ab_fin C a b o D = some r ∧ ab_ty n V r.1 ∧ ab_co V r.2 := by
  obtain ⟨Γ, rfl, hΓ⟩ := ho
  obtain ⟨Γ1, e1, t1⟩ := ab_pr_ok hC a hΓ
  obtain ⟨Γ2, e2, t2⟩ := ab_pr_ok hC b t1
  exact ⟨(Γ2, D Γ ++ C), by simp only [ab_fin, ab_ctr_ok hΓ hC (hD Γ hΓ), cond_true, e1, e2], t2, ab_con (hD Γ hΓ) hC⟩
/-- equal values have one flag -/
def ab_eqf (Γ : List ab_Y) (a b : ab_V) (o : Option (List ab_Y)) : Option (List ab_Y) := o.map fun Γ' => match Nat.beq (ab_fg Γ a) 3, Nat.beq (ab_fg Γ b) 3 with
  | true, _ => ab_f3 Γ' b
  | false, true => ab_f3 Γ' a
  | false, false => Γ'
/-- what a comparison that holds tells; none: it can't hold -/
def ab_as (c : ClassFile.Cond) (Γ : List ab_Y) (C : List (Nat × Nat × Int)) (a b : ab_V) (p q : Int × Int) : Option (List ab_Y × List (Nat × Nat × Int)) := match c with
  | .lt => ab_fin C a b (ab_lm2 Γ a p.1 (q.2 - 1) b (p.1 + 1) q.2) fun _ => ab_dd a b (-1)
  | .le => ab_fin C a b (ab_lm2 Γ a p.1 q.2 b p.1 q.2) fun _ => ab_dd a b 0
  | .gt => ab_fin C a b (ab_lm2 Γ a (q.1 + 1) p.2 b q.1 (p.2 - 1)) fun _ => ab_dd b a (-1)
  | .ge => ab_fin C a b (ab_lm2 Γ a q.1 p.2 b q.1 p.2) fun _ => ab_dd b a 0
  | .eq => ab_fin C a b (ab_eqf Γ a b (ab_lm2 Γ a q.1 q.2 b p.1 p.2)) fun _ => ab_dd a b 0 ++ ab_dd b a 0
  | .ne => ab_fin C a b (ab_lm2 Γ a (bif decide (q.1 = q.2) && decide (p.1 = q.1) then p.1 + 1 else p.1) (bif decide (q.1 = q.2) && decide (p.2 = q.1) then p.2 - 1 else p.2) b (bif decide (p.1 = p.2) && decide (q.1 = p.1) then q.1 + 1 else q.1) (bif decide (p.1 = p.2) && decide (q.2 = p.1) then q.2 - 1 else q.2)) fun Γ' => (bif ab_leq Γ' C 3 a b 0 then ab_dd a b (-1) else []) ++ (bif ab_leq Γ' C 3 b a 0 then ab_dd b a (-1) else [])
theorem ab_as_ok {n : Nat} {V : List Value} {Γ : List ab_Y} {C : List (Nat × Nat × Int)} (hΓ : ab_ty n V Γ) (hC : ab_co V C) {a b : ab_V} {x y : Int32} (ha : ab_cv V a = some (.int x)) (hb : ab_cv V b = some (.int y)) {p q : Int × Int} (hp : p.1 ≤ x.toInt ∧ x.toInt ≤ p.2) (hq : q.1 ≤ y.toInt ∧ y.toInt ≤ q.2) {c : ClassFile.Cond} (h : ax_holds c x y) :
    ∃ r, ab_as c Γ C a b p q = some r ∧ ab_ty n V r.1 ∧ ab_co V r.2 := by
  cases c with
  | lt =>
    have h' : x.toInt < y.toInt := Int32.lt_iff_toInt_lt.mp h
    exact ab_fin_ok hC a b (ab_lm2_ok hΓ ha hb (by omega) (by omega) (by omega) (by omega)) fun _ _ => ab_dd_ok ha hb (by omega)
  | le =>
    have h' : x.toInt ≤ y.toInt := Int32.le_iff_toInt_le.mp h
    exact ab_fin_ok hC a b (ab_lm2_ok hΓ ha hb (by omega) (by omega) (by omega) (by omega)) fun _ _ => ab_dd_ok ha hb (by omega)
  | gt =>
    have h' : y.toInt < x.toInt := Int32.lt_iff_toInt_lt.mp h
    exact ab_fin_ok hC a b (ab_lm2_ok hΓ ha hb (by omega) (by omega) (by omega) (by omega)) fun _ _ => ab_dd_ok hb ha (by omega)
  | ge =>
    have h' : y.toInt ≤ x.toInt := Int32.le_iff_toInt_le.mp h
    exact ab_fin_ok hC a b (ab_lm2_ok hΓ ha hb (by omega) (by omega) (by omega) (by omega)) fun _ _ => ab_dd_ok hb ha (by omega)
  | eq =>
    have h' : x = y := h
    subst h'
    refine ab_fin_ok hC a b ?_ fun _ _ => ab_con (ab_dd_ok ha hb (by omega)) (ab_dd_ok hb ha (by omega))
    obtain ⟨Γ', e, t⟩ := ab_lm2_ok hΓ ha hb (lo := q.1) (hi := q.2) (lo' := p.1) (hi' := p.2) (by omega) (by omega) (by omega) (by omega)
    have fa := ab_fg_ok hΓ ha
    have fb := ab_fg_ok hΓ hb
    rw [e]
    refine ⟨_, rfl, ?_⟩
    show ab_ty n V (match Nat.beq (ab_fg Γ a) 3, Nat.beq (ab_fg Γ b) 3 with
      | true, _ => ab_f3 Γ' b
      | false, true => ab_f3 Γ' a
      | false, false => Γ')
    cases e1 : Nat.beq (ab_fg Γ a) 3 with
    | true =>
      have e1' : ab_fg Γ a = 3 := by simpa [Nat.beq_eq] using e1
      rw [e1'] at fa
      exact ab_f3_ok t hb fa
    | false =>
      cases e2 : Nat.beq (ab_fg Γ b) 3 with
      | true =>
        have e2' : ab_fg Γ b = 3 := by simpa [Nat.beq_eq] using e2
        rw [e2'] at fb
        exact ab_f3_ok t ha fb
      | false => exact t
  | ne =>
    have h' : x.toInt ≠ y.toInt := fun e => h (Int32.toInt_inj.mp e)
    have k1 : ∀ {A B : Bool} {u v w : Int}, (A = true → B = true → u ≤ w) → (¬ (A = true ∧ B = true) → v ≤ w) → (bif A && B then u else v) ≤ w := by
      intro A B u v w f g
      cases A <;> cases B <;> first | exact f rfl rfl | exact g (by simp)
    have k2 : ∀ {A B : Bool} {u v w : Int}, (A = true → B = true → w ≤ u) → (¬ (A = true ∧ B = true) → w ≤ v) → w ≤ (bif A && B then u else v) := by
      intro A B u v w f g
      cases A <;> cases B <;> first | exact f rfl rfl | exact g (by simp)
    refine ab_fin_ok hC a b (ab_lm2_ok hΓ ha hb (k1 (fun e1 e2 => ?_) (fun _ => hp.1)) (k2 (fun e1 e2 => ?_) (fun _ => hp.2)) (k1 (fun e1 e2 => ?_) (fun _ => hq.1)) (k2 (fun e1 e2 => ?_) (fun _ => hq.2))) fun Γ' t' => ab_con ?_ ?_
    · have := of_decide_eq_true e1; have := of_decide_eq_true e2; omega
    · have := of_decide_eq_true e1; have := of_decide_eq_true e2; omega
    · have := of_decide_eq_true e1; have := of_decide_eq_true e2; omega
    · have := of_decide_eq_true e1; have := of_decide_eq_true e2; omega
    · cases e : ab_leq Γ' C 3 a b 0 with
      | false => exact ab_no
      | true => have := ab_leq_ok t' hC e ha hb; exact ab_dd_ok ha hb (by omega)
    · cases e : ab_leq Γ' C 3 b a 0 with
      | false => exact ab_no
      | true => have := ab_leq_ok t' hC e hb ha; exact ab_dd_ok hb ha (by omega)
end
