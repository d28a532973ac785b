section LO
variable {G : ax_T} {p : Program} {l : Launch} {e : Env} {s : State} {m : MethodId} {below : List Frame} {meth : Method} {c : Code} {b L : Nat} {xs : Nat → Int32}
variable {pc i : Nat} {lv : List (Nat × Value)} {st as rest : List Value} {h : ax_H} {n cs ss : Nat} {en : ax_EN} {mi : ax_MI}
theorem op_0 (C : lx_C G p s m meth c b L xs) (H : ab_Hand l G) (H2 : ab_Hand2 l G) (hi : i + 5 ≤ L) (hL : L ≤ 2560) (hI : lx_I h n cs ss) (kk : ∀ (h' : ax_H) (n' cs' ss' : Nat), lx_I h' n' cs' ss' → lx_W G p l e s m below meth c b (1173, [(3, .int (nI i)), (2, .ref 542), (1, .ref 0), (0, .retAddr 2)], [], h', n', cs', ss')) : lx_W G p l e s m below meth c b (196, [(3, .int (nI i)), (2, .ref 542), (1, .ref 0), (0, .retAddr 2)], [], h, n, cs, ss) := by
  obtain ⟨hcs, hss⟩ := lx_I_le hI
  have ix1 : (nI i + Int32.ofInt 1).toInt = (i : Int) + 1 := lo_ix hi hL 1 (by decide)
  have ix2 : (nI i + Int32.ofInt 2).toInt = (i : Int) + 2 := lo_ix hi hL 2 (by decide)
  have ix3 : (nI i + Int32.ofInt 3).toInt = (i : Int) + 3 := lo_ix hi hL 3 (by decide)
  have ix4 : (nI i + Int32.ofInt 4).toInt = (i : Int) + 4 := lo_ix hi hL 4 (by decide)
  refine lx_step C (en := (196, .aload_n 1, 1, (0, 0, 0, 0), [])) rfl (F := (197, [(3, .int (nI i)), (2, .ref 542), (1, .ref 0), (0, .retAddr 2)], [.ref 0], h, n, cs, ss)) rfl hcs hss ?_
  refine lx_step C (en := (197, .aload_n 0, 1, (0, 0, 0, 0), [])) rfl (F := (198, [(3, .int (nI i)), (2, .ref 542), (1, .ref 0), (0, .retAddr 2)], [.retAddr 2, .ref 0], h, n, cs, ss)) rfl hcs hss ?_
  refine lx_step C (en := (198, .iload_n 3, 1, (0, 0, 0, 0), [])) rfl (F := (199, [(3, .int (nI i)), (2, .ref 542), (1, .ref 0), (0, .retAddr 2)], [.int (nI i), .retAddr 2, .ref 0], h, n, cs, ss)) rfl hcs hss ?_
  refine lx_step C (en := (199, .iconst 1, 1, (0, 0, 0, 0), [])) rfl (F := (200, [(3, .int (nI i)), (2, .ref 542), (1, .ref 0), (0, .retAddr 2)], [.int (Int32.ofInt 1), .int (nI i), .retAddr 2, .ref 0], h, n, cs, ss)) rfl hcs hss ?_
  refine lx_step C (en := (200, .iadd, 1, (0, 0, 0, 0), [])) rfl (F := (201, [(3, .int (nI i)), (2, .ref 542), (1, .ref 0), (0, .retAddr 2)], [.int ((nI i) + (Int32.ofInt 1)), .retAddr 2, .ref 0], h, n, cs, ss)) rfl hcs hss ?_
  refine lx_at C (by omega) (by omega) (lx_ok (meth := meth) (en := (201, .iaload, 1, (0, 0, 0, 0), [])) rfl).1 ?_
  refine lx_step C (en := (202, .i2l, 1, (0, 0, 0, 0), [])) rfl (F := (203, [(3, .int (nI i)), (2, .ref 542), (1, .ref 0), (0, .retAddr 2)], [.long ((xs (((nI i) + (Int32.ofInt 1))).toNatClampNeg)).toInt64, .ref 0], h, n, cs, ss)) rfl hcs hss ?_
  refine lx_step C (en := (203, .bipush 32, 2, (0, 0, 0, 0), [])) rfl (F := (205, [(3, .int (nI i)), (2, .ref 542), (1, .ref 0), (0, .retAddr 2)], [.int (Int8.ofInt 32).toInt32, .long ((xs (((nI i) + (Int32.ofInt 1))).toNatClampNeg)).toInt64, .ref 0], h, n, cs, ss)) rfl hcs hss ?_
  refine lx_lshl C (by decide +kernel) ?_
  refine lx_step C (en := (206, .aload_n 0, 1, (0, 0, 0, 0), [])) rfl (F := (207, [(3, .int (nI i)), (2, .ref 542), (1, .ref 0), (0, .retAddr 2)], [.retAddr 2, .long (((xs (((nI i) + (Int32.ofInt 1))).toNatClampNeg)).toInt64 <<< (((Int8.ofInt 32).toInt32).toInt64 &&& 63)), .ref 0], h, n, cs, ss)) rfl hcs hss ?_
  refine lx_step C (en := (207, .iload_n 3, 1, (0, 0, 0, 0), [])) rfl (F := (208, [(3, .int (nI i)), (2, .ref 542), (1, .ref 0), (0, .retAddr 2)], [.int (nI i), .retAddr 2, .long (((xs (((nI i) + (Int32.ofInt 1))).toNatClampNeg)).toInt64 <<< (((Int8.ofInt 32).toInt32).toInt64 &&& 63)), .ref 0], h, n, cs, ss)) rfl hcs hss ?_
  refine lx_step C (en := (208, .iconst 2, 1, (0, 0, 0, 0), [])) rfl (F := (209, [(3, .int (nI i)), (2, .ref 542), (1, .ref 0), (0, .retAddr 2)], [.int (Int32.ofInt 2), .int (nI i), .retAddr 2, .long (((xs (((nI i) + (Int32.ofInt 1))).toNatClampNeg)).toInt64 <<< (((Int8.ofInt 32).toInt32).toInt64 &&& 63)), .ref 0], h, n, cs, ss)) rfl hcs hss ?_
  refine lx_step C (en := (209, .iadd, 1, (0, 0, 0, 0), [])) rfl (F := (210, [(3, .int (nI i)), (2, .ref 542), (1, .ref 0), (0, .retAddr 2)], [.int ((nI i) + (Int32.ofInt 2)), .retAddr 2, .long (((xs (((nI i) + (Int32.ofInt 1))).toNatClampNeg)).toInt64 <<< (((Int8.ofInt 32).toInt32).toInt64 &&& 63)), .ref 0], h, n, cs, ss)) rfl hcs hss ?_
  refine lx_at C (by omega) (by omega) (lx_ok (meth := meth) (en := (210, .iaload, 1, (0, 0, 0, 0), [])) rfl).1 ?_
  refine lx_step C (en := (211, .i2l, 1, (0, 0, 0, 0), [])) rfl (F := (212, [(3, .int (nI i)), (2, .ref 542), (1, .ref 0), (0, .retAddr 2)], [.long ((xs (((nI i) + (Int32.ofInt 2))).toNatClampNeg)).toInt64, .long (((xs (((nI i) + (Int32.ofInt 1))).toNatClampNeg)).toInt64 <<< (((Int8.ofInt 32).toInt32).toInt64 &&& 63)), .ref 0], h, n, cs, ss)) rfl hcs hss ?_
  refine lx_step C (en := (212, .ldc2_w 13, 3, (7, 0, 0, 4294967295), [1608])) rfl (F := (215, [(3, .int (nI i)), (2, .ref 542), (1, .ref 0), (0, .retAddr 2)], [.long (Int64.ofInt 4294967295), .long ((xs (((nI i) + (Int32.ofInt 2))).toNatClampNeg)).toInt64, .long (((xs (((nI i) + (Int32.ofInt 1))).toNatClampNeg)).toInt64 <<< (((Int8.ofInt 32).toInt32).toInt64 &&& 63)), .ref 0], h, n, cs, ss)) rfl hcs hss ?_
  refine lx_land C (by decide +kernel) ?_
  refine lx_lor C (by decide +kernel) ?_
  obtain ⟨x1, h1, n1, h2, n2, hM1, hM2, hT1, hI2⟩ := lx_le hI (((((xs (((nI i) + (Int32.ofInt 1))).toNatClampNeg)).toInt64 <<< (((Int8.ofInt 32).toInt32).toInt64 &&& 63)) ||| (((xs (((nI i) + (Int32.ofInt 2))).toNatClampNeg)).toInt64 &&& (Int64.ofInt 4294967295))))
  obtain ⟨fs1, hr1⟩ := ht_x hI.1
  obtain ⟨fs2, hr2⟩ := ht_m hT1
  refine lx_call C mt_ok (lx_ok (en := (217, .invokevirtual 15, 3, (3, 102, 10, 0), [456, 457, 455])) rfl) (lo_inv mi_X10_letters rfl hr1 rfl) hM1 hcs hss ?_
  show lx_W G p l e s m below meth c b (220, [(3, .int (nI i)), (2, .ref 542), (1, .ref 0), (0, .retAddr 2)], [.int x1], h1, n1, cs, ss)
  refine lx_step C (en := (220, .pop, 1, (0, 0, 0, 0), [])) rfl (F := (221, [(3, .int (nI i)), (2, .ref 542), (1, .ref 0), (0, .retAddr 2)], [], h1, n1, cs, ss)) rfl hcs hss ?_
  refine lx_step C (en := (221, .aload_n 2, 1, (0, 0, 0, 0), [])) rfl (F := (222, [(3, .int (nI i)), (2, .ref 542), (1, .ref 0), (0, .retAddr 2)], [.ref 542], h1, n1, cs, ss)) rfl hcs hss ?_
  refine lx_step C (en := (222, .aload_n 0, 1, (0, 0, 0, 0), [])) rfl (F := (223, [(3, .int (nI i)), (2, .ref 542), (1, .ref 0), (0, .retAddr 2)], [.retAddr 2, .ref 542], h1, n1, cs, ss)) rfl hcs hss ?_
  refine lx_step C (en := (223, .iload_n 3, 1, (0, 0, 0, 0), [])) rfl (F := (224, [(3, .int (nI i)), (2, .ref 542), (1, .ref 0), (0, .retAddr 2)], [.int (nI i), .retAddr 2, .ref 542], h1, n1, cs, ss)) rfl hcs hss ?_
  refine lx_step C (en := (224, .iconst 1, 1, (0, 0, 0, 0), [])) rfl (F := (225, [(3, .int (nI i)), (2, .ref 542), (1, .ref 0), (0, .retAddr 2)], [.int (Int32.ofInt 1), .int (nI i), .retAddr 2, .ref 542], h1, n1, cs, ss)) rfl hcs hss ?_
  refine lx_step C (en := (225, .iadd, 1, (0, 0, 0, 0), [])) rfl (F := (226, [(3, .int (nI i)), (2, .ref 542), (1, .ref 0), (0, .retAddr 2)], [.int ((nI i) + (Int32.ofInt 1)), .retAddr 2, .ref 542], h1, n1, cs, ss)) rfl hcs hss ?_
  refine lx_at C (by omega) (by omega) (lx_ok (meth := meth) (en := (226, .iaload, 1, (0, 0, 0, 0), [])) rfl).1 ?_
  refine lx_step C (en := (227, .i2l, 1, (0, 0, 0, 0), [])) rfl (F := (228, [(3, .int (nI i)), (2, .ref 542), (1, .ref 0), (0, .retAddr 2)], [.long ((xs (((nI i) + (Int32.ofInt 1))).toNatClampNeg)).toInt64, .ref 542], h1, n1, cs, ss)) rfl hcs hss ?_
  refine lx_step C (en := (228, .bipush 32, 2, (0, 0, 0, 0), [])) rfl (F := (230, [(3, .int (nI i)), (2, .ref 542), (1, .ref 0), (0, .retAddr 2)], [.int (Int8.ofInt 32).toInt32, .long ((xs (((nI i) + (Int32.ofInt 1))).toNatClampNeg)).toInt64, .ref 542], h1, n1, cs, ss)) rfl hcs hss ?_
  refine lx_lshl C (by decide +kernel) ?_
  refine lx_step C (en := (231, .aload_n 0, 1, (0, 0, 0, 0), [])) rfl (F := (232, [(3, .int (nI i)), (2, .ref 542), (1, .ref 0), (0, .retAddr 2)], [.retAddr 2, .long (((xs (((nI i) + (Int32.ofInt 1))).toNatClampNeg)).toInt64 <<< (((Int8.ofInt 32).toInt32).toInt64 &&& 63)), .ref 542], h1, n1, cs, ss)) rfl hcs hss ?_
  refine lx_step C (en := (232, .iload_n 3, 1, (0, 0, 0, 0), [])) rfl (F := (233, [(3, .int (nI i)), (2, .ref 542), (1, .ref 0), (0, .retAddr 2)], [.int (nI i), .retAddr 2, .long (((xs (((nI i) + (Int32.ofInt 1))).toNatClampNeg)).toInt64 <<< (((Int8.ofInt 32).toInt32).toInt64 &&& 63)), .ref 542], h1, n1, cs, ss)) rfl hcs hss ?_
  refine lx_step C (en := (233, .iconst 2, 1, (0, 0, 0, 0), [])) rfl (F := (234, [(3, .int (nI i)), (2, .ref 542), (1, .ref 0), (0, .retAddr 2)], [.int (Int32.ofInt 2), .int (nI i), .retAddr 2, .long (((xs (((nI i) + (Int32.ofInt 1))).toNatClampNeg)).toInt64 <<< (((Int8.ofInt 32).toInt32).toInt64 &&& 63)), .ref 542], h1, n1, cs, ss)) rfl hcs hss ?_
  refine lx_step C (en := (234, .iadd, 1, (0, 0, 0, 0), [])) rfl (F := (235, [(3, .int (nI i)), (2, .ref 542), (1, .ref 0), (0, .retAddr 2)], [.int ((nI i) + (Int32.ofInt 2)), .retAddr 2, .long (((xs (((nI i) + (Int32.ofInt 1))).toNatClampNeg)).toInt64 <<< (((Int8.ofInt 32).toInt32).toInt64 &&& 63)), .ref 542], h1, n1, cs, ss)) rfl hcs hss ?_
  refine lx_at C (by omega) (by omega) (lx_ok (meth := meth) (en := (235, .iaload, 1, (0, 0, 0, 0), [])) rfl).1 ?_
  refine lx_step C (en := (236, .i2l, 1, (0, 0, 0, 0), [])) rfl (F := (237, [(3, .int (nI i)), (2, .ref 542), (1, .ref 0), (0, .retAddr 2)], [.long ((xs (((nI i) + (Int32.ofInt 2))).toNatClampNeg)).toInt64, .long (((xs (((nI i) + (Int32.ofInt 1))).toNatClampNeg)).toInt64 <<< (((Int8.ofInt 32).toInt32).toInt64 &&& 63)), .ref 542], h1, n1, cs, ss)) rfl hcs hss ?_
  refine lx_step C (en := (237, .ldc2_w 13, 3, (7, 0, 0, 4294967295), [1608])) rfl (F := (240, [(3, .int (nI i)), (2, .ref 542), (1, .ref 0), (0, .retAddr 2)], [.long (Int64.ofInt 4294967295), .long ((xs (((nI i) + (Int32.ofInt 2))).toNatClampNeg)).toInt64, .long (((xs (((nI i) + (Int32.ofInt 1))).toNatClampNeg)).toInt64 <<< (((Int8.ofInt 32).toInt32).toInt64 &&& 63)), .ref 542], h1, n1, cs, ss)) rfl hcs hss ?_
  refine lx_land C (by decide +kernel) ?_
  refine lx_lor C (by decide +kernel) ?_
  refine lx_call C mt_ok (lx_ok (en := (242, .invokevirtual 19, 3, (3, 153, 11, 0), [1270, 1271, 1269])) rfl) (lo_inv mi_X11_letters rfl hr2 rfl) hM2 hcs hss ?_
  show lx_W G p l e s m below meth c b (245, [(3, .int (nI i)), (2, .ref 542), (1, .ref 0), (0, .retAddr 2)], [.int x1], h2, n2, cs, ss)
  refine lx_step C (en := (245, .pop, 1, (0, 0, 0, 0), [])) rfl (F := (246, [(3, .int (nI i)), (2, .ref 542), (1, .ref 0), (0, .retAddr 2)], [], h2, n2, cs, ss)) rfl hcs hss ?_
  refine lx_step C (en := (246, .goto 927, 3, (0, 0, 0, 0), [])) rfl (F := (1173, [(3, .int (nI i)), (2, .ref 542), (1, .ref 0), (0, .retAddr 2)], [], h2, n2, cs, ss)) rfl hcs hss ?_
  exact kk h2 n2 cs ss hI2
theorem op_1 (C : lx_C G p s m meth c b L xs) (H : ab_Hand l G) (H2 : ab_Hand2 l G) (hi : i + 5 ≤ L) (hL : L ≤ 2560) (hI : lx_I h n cs ss) (kk : ∀ (h' : ax_H) (n' cs' ss' : Nat), lx_I h' n' cs' ss' → lx_W G p l e s m below meth c b (1173, [(3, .int (nI i)), (2, .ref 542), (1, .ref 0), (0, .retAddr 2)], [], h', n', cs', ss')) : lx_W G p l e s m below meth c b (249, [(3, .int (nI i)), (2, .ref 542), (1, .ref 0), (0, .retAddr 2)], [], h, n, cs, ss) := by
  obtain ⟨hcs, hss⟩ := lx_I_le hI
  have ix1 : (nI i + Int32.ofInt 1).toInt = (i : Int) + 1 := lo_ix hi hL 1 (by decide)
  have ix2 : (nI i + Int32.ofInt 2).toInt = (i : Int) + 2 := lo_ix hi hL 2 (by decide)
  have ix3 : (nI i + Int32.ofInt 3).toInt = (i : Int) + 3 := lo_ix hi hL 3 (by decide)
  have ix4 : (nI i + Int32.ofInt 4).toInt = (i : Int) + 4 := lo_ix hi hL 4 (by decide)
  refine lx_step C (en := (249, .aload_n 1, 1, (0, 0, 0, 0), [])) rfl (F := (250, [(3, .int (nI i)), (2, .ref 542), (1, .ref 0), (0, .retAddr 2)], [.ref 0], h, n, cs, ss)) rfl hcs hss ?_
  obtain ⟨x1, h1, n1, h2, n2, hM1, hM2, hT1, hI2⟩ := lx_bl hI 
  obtain ⟨fs1, hr1⟩ := ht_x hI.1
  obtain ⟨fs2, hr2⟩ := ht_m hT1
  refine lx_call C mt_ok (lx_ok (en := (250, .invokevirtual 20, 3, (3, 103, 10, 0), [470, 471, 469])) rfl) (lo_inv mi_X10_blank rfl hr1 rfl) hM1 hcs hss ?_
  show lx_W G p l e s m below meth c b (253, [(3, .int (nI i)), (2, .ref 542), (1, .ref 0), (0, .retAddr 2)], [.int x1], h1, n1, cs, ss)
  refine lx_step C (en := (253, .pop, 1, (0, 0, 0, 0), [])) rfl (F := (254, [(3, .int (nI i)), (2, .ref 542), (1, .ref 0), (0, .retAddr 2)], [], h1, n1, cs, ss)) rfl hcs hss ?_
  refine lx_step C (en := (254, .aload_n 2, 1, (0, 0, 0, 0), [])) rfl (F := (255, [(3, .int (nI i)), (2, .ref 542), (1, .ref 0), (0, .retAddr 2)], [.ref 542], h1, n1, cs, ss)) rfl hcs hss ?_
  refine lx_call C mt_ok (lx_ok (en := (255, .invokevirtual 24, 3, (3, 154, 11, 0), [1275, 1276, 1274])) rfl) (lo_inv mi_X11_blank rfl hr2 rfl) hM2 hcs hss ?_
  show lx_W G p l e s m below meth c b (258, [(3, .int (nI i)), (2, .ref 542), (1, .ref 0), (0, .retAddr 2)], [.int x1], h2, n2, cs, ss)
  refine lx_step C (en := (258, .pop, 1, (0, 0, 0, 0), [])) rfl (F := (259, [(3, .int (nI i)), (2, .ref 542), (1, .ref 0), (0, .retAddr 2)], [], h2, n2, cs, ss)) rfl hcs hss ?_
  refine lx_step C (en := (259, .goto 914, 3, (0, 0, 0, 0), [])) rfl (F := (1173, [(3, .int (nI i)), (2, .ref 542), (1, .ref 0), (0, .retAddr 2)], [], h2, n2, cs, ss)) rfl hcs hss ?_
  exact kk h2 n2 cs ss hI2
theorem op_2 (C : lx_C G p s m meth c b L xs) (H : ab_Hand l G) (H2 : ab_Hand2 l G) (hi : i + 5 ≤ L) (hL : L ≤ 2560) (hI : lx_I h n cs ss) (kk : ∀ (h' : ax_H) (n' cs' ss' : Nat), lx_I h' n' cs' ss' → lx_W G p l e s m below meth c b (1173, [(3, .int (nI i)), (2, .ref 542), (1, .ref 0), (0, .retAddr 2)], [], h', n', cs', ss')) : lx_W G p l e s m below meth c b (262, [(3, .int (nI i)), (2, .ref 542), (1, .ref 0), (0, .retAddr 2)], [], h, n, cs, ss) := by
  obtain ⟨hcs, hss⟩ := lx_I_le hI
  have ix1 : (nI i + Int32.ofInt 1).toInt = (i : Int) + 1 := lo_ix hi hL 1 (by decide)
  have ix2 : (nI i + Int32.ofInt 2).toInt = (i : Int) + 2 := lo_ix hi hL 2 (by decide)
  have ix3 : (nI i + Int32.ofInt 3).toInt = (i : Int) + 3 := lo_ix hi hL 3 (by decide)
  have ix4 : (nI i + Int32.ofInt 4).toInt = (i : Int) + 4 := lo_ix hi hL 4 (by decide)
  refine lx_step C (en := (262, .aload_n 1, 1, (0, 0, 0, 0), [])) rfl (F := (263, [(3, .int (nI i)), (2, .ref 542), (1, .ref 0), (0, .retAddr 2)], [.ref 0], h, n, cs, ss)) rfl hcs hss ?_
  obtain ⟨x1, h1, n1, h2, n2, hM1, hM2, hT1, hI2⟩ := lx_go hI 
  obtain ⟨fs1, hr1⟩ := ht_x hI.1
  obtain ⟨fs2, hr2⟩ := ht_m hT1
  refine lx_call C mt_ok (lx_ok (en := (263, .invokevirtual 25, 3, (3, 104, 10, 0), [474, 475, 473])) rfl) (lo_inv mi_X10_good rfl hr1 rfl) hM1 hcs hss ?_
  show lx_W G p l e s m below meth c b (266, [(3, .int (nI i)), (2, .ref 542), (1, .ref 0), (0, .retAddr 2)], [.int x1], h1, n1, cs, ss)
  refine lx_step C (en := (266, .pop, 1, (0, 0, 0, 0), [])) rfl (F := (267, [(3, .int (nI i)), (2, .ref 542), (1, .ref 0), (0, .retAddr 2)], [], h1, n1, cs, ss)) rfl hcs hss ?_
  refine lx_step C (en := (267, .aload_n 2, 1, (0, 0, 0, 0), [])) rfl (F := (268, [(3, .int (nI i)), (2, .ref 542), (1, .ref 0), (0, .retAddr 2)], [.ref 542], h1, n1, cs, ss)) rfl hcs hss ?_
  refine lx_call C mt_ok (lx_ok (en := (268, .invokevirtual 28, 3, (3, 158, 11, 0), [1279, 1280, 1278])) rfl) (lo_inv mi_X11_good rfl hr2 rfl) hM2 hcs hss ?_
  show lx_W G p l e s m below meth c b (271, [(3, .int (nI i)), (2, .ref 542), (1, .ref 0), (0, .retAddr 2)], [.int x1], h2, n2, cs, ss)
  refine lx_step C (en := (271, .pop, 1, (0, 0, 0, 0), [])) rfl (F := (272, [(3, .int (nI i)), (2, .ref 542), (1, .ref 0), (0, .retAddr 2)], [], h2, n2, cs, ss)) rfl hcs hss ?_
  refine lx_step C (en := (272, .goto 901, 3, (0, 0, 0, 0), [])) rfl (F := (1173, [(3, .int (nI i)), (2, .ref 542), (1, .ref 0), (0, .retAddr 2)], [], h2, n2, cs, ss)) rfl hcs hss ?_
  exact kk h2 n2 cs ss hI2
theorem op_3 (C : lx_C G p s m meth c b L xs) (H : ab_Hand l G) (H2 : ab_Hand2 l G) (hi : i + 5 ≤ L) (hL : L ≤ 2560) (hI : lx_I h n cs ss) (kk : ∀ (h' : ax_H) (n' cs' ss' : Nat), lx_I h' n' cs' ss' → lx_W G p l e s m below meth c b (1173, [(3, .int (nI i)), (2, .ref 542), (1, .ref 0), (0, .retAddr 2)], [], h', n', cs', ss')) : lx_W G p l e s m below meth c b (275, [(3, .int (nI i)), (2, .ref 542), (1, .ref 0), (0, .retAddr 2)], [], h, n, cs, ss) := by
  obtain ⟨hcs, hss⟩ := lx_I_le hI
  have ix1 : (nI i + Int32.ofInt 1).toInt = (i : Int) + 1 := lo_ix hi hL 1 (by decide)
  have ix2 : (nI i + Int32.ofInt 2).toInt = (i : Int) + 2 := lo_ix hi hL 2 (by decide)
  have ix3 : (nI i + Int32.ofInt 3).toInt = (i : Int) + 3 := lo_ix hi hL 3 (by decide)
  have ix4 : (nI i + Int32.ofInt 4).toInt = (i : Int) + 4 := lo_ix hi hL 4 (by decide)
  refine lx_step C (en := (275, .aload_n 1, 1, (0, 0, 0, 0), [])) rfl (F := (276, [(3, .int (nI i)), (2, .ref 542), (1, .ref 0), (0, .retAddr 2)], [.ref 0], h, n, cs, ss)) rfl hcs hss ?_
  obtain ⟨x1, h1, n1, h2, n2, hM1, hM2, hT1, hI2⟩ := lx_cu H hI 
  obtain ⟨fs1, hr1⟩ := ht_x hI.1
  obtain ⟨fs2, hr2⟩ := ht_m hT1
  refine lx_call C mt_ok (lx_ok (en := (276, .invokevirtual 29, 3, (3, 105, 10, 0), [589, 590, 588])) rfl) (lo_inv mi_X10_custom rfl hr1 rfl) hM1 hcs hss ?_
  show lx_W G p l e s m below meth c b (279, [(3, .int (nI i)), (2, .ref 542), (1, .ref 0), (0, .retAddr 2)], [.int x1], h1, n1, cs, ss)
  refine lx_step C (en := (279, .pop, 1, (0, 0, 0, 0), [])) rfl (F := (280, [(3, .int (nI i)), (2, .ref 542), (1, .ref 0), (0, .retAddr 2)], [], h1, n1, cs, ss)) rfl hcs hss ?_
  refine lx_step C (en := (280, .aload_n 2, 1, (0, 0, 0, 0), [])) rfl (F := (281, [(3, .int (nI i)), (2, .ref 542), (1, .ref 0), (0, .retAddr 2)], [.ref 542], h1, n1, cs, ss)) rfl hcs hss ?_
  refine lx_call C mt_ok (lx_ok (en := (281, .invokevirtual 32, 3, (3, 159, 11, 0), [1298, 1299, 1297])) rfl) (lo_inv mi_X11_custom rfl hr2 rfl) hM2 hcs hss ?_
  show lx_W G p l e s m below meth c b (284, [(3, .int (nI i)), (2, .ref 542), (1, .ref 0), (0, .retAddr 2)], [.int x1], h2, n2, cs, ss)
  refine lx_step C (en := (284, .pop, 1, (0, 0, 0, 0), [])) rfl (F := (285, [(3, .int (nI i)), (2, .ref 542), (1, .ref 0), (0, .retAddr 2)], [], h2, n2, cs, ss)) rfl hcs hss ?_
  refine lx_step C (en := (285, .goto 888, 3, (0, 0, 0, 0), [])) rfl (F := (1173, [(3, .int (nI i)), (2, .ref 542), (1, .ref 0), (0, .retAddr 2)], [], h2, n2, cs, ss)) rfl hcs hss ?_
  exact kk h2 n2 cs ss hI2
theorem op_4 (C : lx_C G p s m meth c b L xs) (H : ab_Hand l G) (H2 : ab_Hand2 l G) (hi : i + 5 ≤ L) (hL : L ≤ 2560) (hI : lx_I h n cs ss) (kk : ∀ (h' : ax_H) (n' cs' ss' : Nat), lx_I h' n' cs' ss' → lx_W G p l e s m below meth c b (1173, [(3, .int (nI i)), (2, .ref 542), (1, .ref 0), (0, .retAddr 2)], [], h', n', cs', ss')) : lx_W G p l e s m below meth c b (288, [(3, .int (nI i)), (2, .ref 542), (1, .ref 0), (0, .retAddr 2)], [], h, n, cs, ss) := by
  obtain ⟨hcs, hss⟩ := lx_I_le hI
  have ix1 : (nI i + Int32.ofInt 1).toInt = (i : Int) + 1 := lo_ix hi hL 1 (by decide)
  have ix2 : (nI i + Int32.ofInt 2).toInt = (i : Int) + 2 := lo_ix hi hL 2 (by decide)
  have ix3 : (nI i + Int32.ofInt 3).toInt = (i : Int) + 3 := lo_ix hi hL 3 (by decide)
  have ix4 : (nI i + Int32.ofInt 4).toInt = (i : Int) + 4 := lo_ix hi hL 4 (by decide)
  refine lx_step C (en := (288, .aload_n 1, 1, (0, 0, 0, 0), [])) rfl (F := (289, [(3, .int (nI i)), (2, .ref 542), (1, .ref 0), (0, .retAddr 2)], [.ref 0], h, n, cs, ss)) rfl hcs hss ?_
  refine lx_step C (en := (289, .aload_n 0, 1, (0, 0, 0, 0), [])) rfl (F := (290, [(3, .int (nI i)), (2, .ref 542), (1, .ref 0), (0, .retAddr 2)], [.retAddr 2, .ref 0], h, n, cs, ss)) rfl hcs hss ?_
  refine lx_step C (en := (290, .iload_n 3, 1, (0, 0, 0, 0), [])) rfl (F := (291, [(3, .int (nI i)), (2, .ref 542), (1, .ref 0), (0, .retAddr 2)], [.int (nI i), .retAddr 2, .ref 0], h, n, cs, ss)) rfl hcs hss ?_
  refine lx_step C (en := (291, .iconst 1, 1, (0, 0, 0, 0), [])) rfl (F := (292, [(3, .int (nI i)), (2, .ref 542), (1, .ref 0), (0, .retAddr 2)], [.int (Int32.ofInt 1), .int (nI i), .retAddr 2, .ref 0], h, n, cs, ss)) rfl hcs hss ?_
  refine lx_step C (en := (292, .iadd, 1, (0, 0, 0, 0), [])) rfl (F := (293, [(3, .int (nI i)), (2, .ref 542), (1, .ref 0), (0, .retAddr 2)], [.int ((nI i) + (Int32.ofInt 1)), .retAddr 2, .ref 0], h, n, cs, ss)) rfl hcs hss ?_
  refine lx_at C (by omega) (by omega) (lx_ok (meth := meth) (en := (293, .iaload, 1, (0, 0, 0, 0), [])) rfl).1 ?_
  refine lx_step C (en := (294, .aload_n 0, 1, (0, 0, 0, 0), [])) rfl (F := (295, [(3, .int (nI i)), (2, .ref 542), (1, .ref 0), (0, .retAddr 2)], [.retAddr 2, .int (xs (((nI i) + (Int32.ofInt 1))).toNatClampNeg), .ref 0], h, n, cs, ss)) rfl hcs hss ?_
  refine lx_step C (en := (295, .iload_n 3, 1, (0, 0, 0, 0), [])) rfl (F := (296, [(3, .int (nI i)), (2, .ref 542), (1, .ref 0), (0, .retAddr 2)], [.int (nI i), .retAddr 2, .int (xs (((nI i) + (Int32.ofInt 1))).toNatClampNeg), .ref 0], h, n, cs, ss)) rfl hcs hss ?_
  refine lx_step C (en := (296, .iconst 2, 1, (0, 0, 0, 0), [])) rfl (F := (297, [(3, .int (nI i)), (2, .ref 542), (1, .ref 0), (0, .retAddr 2)], [.int (Int32.ofInt 2), .int (nI i), .retAddr 2, .int (xs (((nI i) + (Int32.ofInt 1))).toNatClampNeg), .ref 0], h, n, cs, ss)) rfl hcs hss ?_
  refine lx_step C (en := (297, .iadd, 1, (0, 0, 0, 0), [])) rfl (F := (298, [(3, .int (nI i)), (2, .ref 542), (1, .ref 0), (0, .retAddr 2)], [.int ((nI i) + (Int32.ofInt 2)), .retAddr 2, .int (xs (((nI i) + (Int32.ofInt 1))).toNatClampNeg), .ref 0], h, n, cs, ss)) rfl hcs hss ?_
  refine lx_at C (by omega) (by omega) (lx_ok (meth := meth) (en := (298, .iaload, 1, (0, 0, 0, 0), [])) rfl).1 ?_
  refine lx_step C (en := (299, .aload_n 0, 1, (0, 0, 0, 0), [])) rfl (F := (300, [(3, .int (nI i)), (2, .ref 542), (1, .ref 0), (0, .retAddr 2)], [.retAddr 2, .int (xs (((nI i) + (Int32.ofInt 2))).toNatClampNeg), .int (xs (((nI i) + (Int32.ofInt 1))).toNatClampNeg), .ref 0], h, n, cs, ss)) rfl hcs hss ?_
  refine lx_step C (en := (300, .iload_n 3, 1, (0, 0, 0, 0), [])) rfl (F := (301, [(3, .int (nI i)), (2, .ref 542), (1, .ref 0), (0, .retAddr 2)], [.int (nI i), .retAddr 2, .int (xs (((nI i) + (Int32.ofInt 2))).toNatClampNeg), .int (xs (((nI i) + (Int32.ofInt 1))).toNatClampNeg), .ref 0], h, n, cs, ss)) rfl hcs hss ?_
  refine lx_step C (en := (301, .iconst 3, 1, (0, 0, 0, 0), [])) rfl (F := (302, [(3, .int (nI i)), (2, .ref 542), (1, .ref 0), (0, .retAddr 2)], [.int (Int32.ofInt 3), .int (nI i), .retAddr 2, .int (xs (((nI i) + (Int32.ofInt 2))).toNatClampNeg), .int (xs (((nI i) + (Int32.ofInt 1))).toNatClampNeg), .ref 0], h, n, cs, ss)) rfl hcs hss ?_
  refine lx_step C (en := (302, .iadd, 1, (0, 0, 0, 0), [])) rfl (F := (303, [(3, .int (nI i)), (2, .ref 542), (1, .ref 0), (0, .retAddr 2)], [.int ((nI i) + (Int32.ofInt 3)), .retAddr 2, .int (xs (((nI i) + (Int32.ofInt 2))).toNatClampNeg), .int (xs (((nI i) + (Int32.ofInt 1))).toNatClampNeg), .ref 0], h, n, cs, ss)) rfl hcs hss ?_
  refine lx_at C (by omega) (by omega) (lx_ok (meth := meth) (en := (303, .iaload, 1, (0, 0, 0, 0), [])) rfl).1 ?_
  obtain ⟨x1, h1, n1, h2, n2, hM1, hM2, hT1, hI2⟩ := lx_as hI ((xs (((nI i) + (Int32.ofInt 1))).toNatClampNeg)) ((xs (((nI i) + (Int32.ofInt 2))).toNatClampNeg)) ((xs (((nI i) + (Int32.ofInt 3))).toNatClampNeg))
  obtain ⟨fs1, hr1⟩ := ht_x hI.1
  obtain ⟨fs2, hr2⟩ := ht_m hT1
  refine lx_call C mt_ok (lx_ok (en := (304, .invokevirtual 33, 3, (3, 106, 10, 0), [650, 651, 649])) rfl) (lo_inv mi_X10_asks rfl hr1 rfl) hM1 hcs hss ?_
  show lx_W G p l e s m below meth c b (307, [(3, .int (nI i)), (2, .ref 542), (1, .ref 0), (0, .retAddr 2)], [.int x1], h1, n1, cs, ss)
  refine lx_step C (en := (307, .aload_n 2, 1, (0, 0, 0, 0), [])) rfl (F := (308, [(3, .int (nI i)), (2, .ref 542), (1, .ref 0), (0, .retAddr 2)], [.ref 542, .int x1], h1, n1, cs, ss)) rfl hcs hss ?_
  refine lx_step C (en := (308, .aload_n 0, 1, (0, 0, 0, 0), [])) rfl (F := (309, [(3, .int (nI i)), (2, .ref 542), (1, .ref 0), (0, .retAddr 2)], [.retAddr 2, .ref 542, .int x1], h1, n1, cs, ss)) rfl hcs hss ?_
  refine lx_step C (en := (309, .iload_n 3, 1, (0, 0, 0, 0), [])) rfl (F := (310, [(3, .int (nI i)), (2, .ref 542), (1, .ref 0), (0, .retAddr 2)], [.int (nI i), .retAddr 2, .ref 542, .int x1], h1, n1, cs, ss)) rfl hcs hss ?_
  refine lx_step C (en := (310, .iconst 1, 1, (0, 0, 0, 0), [])) rfl (F := (311, [(3, .int (nI i)), (2, .ref 542), (1, .ref 0), (0, .retAddr 2)], [.int (Int32.ofInt 1), .int (nI i), .retAddr 2, .ref 542, .int x1], h1, n1, cs, ss)) rfl hcs hss ?_
  refine lx_step C (en := (311, .iadd, 1, (0, 0, 0, 0), [])) rfl (F := (312, [(3, .int (nI i)), (2, .ref 542), (1, .ref 0), (0, .retAddr 2)], [.int ((nI i) + (Int32.ofInt 1)), .retAddr 2, .ref 542, .int x1], h1, n1, cs, ss)) rfl hcs hss ?_
  refine lx_at C (by omega) (by omega) (lx_ok (meth := meth) (en := (312, .iaload, 1, (0, 0, 0, 0), [])) rfl).1 ?_
  refine lx_step C (en := (313, .aload_n 0, 1, (0, 0, 0, 0), [])) rfl (F := (314, [(3, .int (nI i)), (2, .ref 542), (1, .ref 0), (0, .retAddr 2)], [.retAddr 2, .int (xs (((nI i) + (Int32.ofInt 1))).toNatClampNeg), .ref 542, .int x1], h1, n1, cs, ss)) rfl hcs hss ?_
  refine lx_step C (en := (314, .iload_n 3, 1, (0, 0, 0, 0), [])) rfl (F := (315, [(3, .int (nI i)), (2, .ref 542), (1, .ref 0), (0, .retAddr 2)], [.int (nI i), .retAddr 2, .int (xs (((nI i) + (Int32.ofInt 1))).toNatClampNeg), .ref 542, .int x1], h1, n1, cs, ss)) rfl hcs hss ?_
  refine lx_step C (en := (315, .iconst 2, 1, (0, 0, 0, 0), [])) rfl (F := (316, [(3, .int (nI i)), (2, .ref 542), (1, .ref 0), (0, .retAddr 2)], [.int (Int32.ofInt 2), .int (nI i), .retAddr 2, .int (xs (((nI i) + (Int32.ofInt 1))).toNatClampNeg), .ref 542, .int x1], h1, n1, cs, ss)) rfl hcs hss ?_
  refine lx_step C (en := (316, .iadd, 1, (0, 0, 0, 0), [])) rfl (F := (317, [(3, .int (nI i)), (2, .ref 542), (1, .ref 0), (0, .retAddr 2)], [.int ((nI i) + (Int32.ofInt 2)), .retAddr 2, .int (xs (((nI i) + (Int32.ofInt 1))).toNatClampNeg), .ref 542, .int x1], h1, n1, cs, ss)) rfl hcs hss ?_
  refine lx_at C (by omega) (by omega) (lx_ok (meth := meth) (en := (317, .iaload, 1, (0, 0, 0, 0), [])) rfl).1 ?_
  refine lx_step C (en := (318, .aload_n 0, 1, (0, 0, 0, 0), [])) rfl (F := (319, [(3, .int (nI i)), (2, .ref 542), (1, .ref 0), (0, .retAddr 2)], [.retAddr 2, .int (xs (((nI i) + (Int32.ofInt 2))).toNatClampNeg), .int (xs (((nI i) + (Int32.ofInt 1))).toNatClampNeg), .ref 542, .int x1], h1, n1, cs, ss)) rfl hcs hss ?_
  refine lx_step C (en := (319, .iload_n 3, 1, (0, 0, 0, 0), [])) rfl (F := (320, [(3, .int (nI i)), (2, .ref 542), (1, .ref 0), (0, .retAddr 2)], [.int (nI i), .retAddr 2, .int (xs (((nI i) + (Int32.ofInt 2))).toNatClampNeg), .int (xs (((nI i) + (Int32.ofInt 1))).toNatClampNeg), .ref 542, .int x1], h1, n1, cs, ss)) rfl hcs hss ?_
  refine lx_step C (en := (320, .iconst 3, 1, (0, 0, 0, 0), [])) rfl (F := (321, [(3, .int (nI i)), (2, .ref 542), (1, .ref 0), (0, .retAddr 2)], [.int (Int32.ofInt 3), .int (nI i), .retAddr 2, .int (xs (((nI i) + (Int32.ofInt 2))).toNatClampNeg), .int (xs (((nI i) + (Int32.ofInt 1))).toNatClampNeg), .ref 542, .int x1], h1, n1, cs, ss)) rfl hcs hss ?_
  refine lx_step C (en := (321, .iadd, 1, (0, 0, 0, 0), [])) rfl (F := (322, [(3, .int (nI i)), (2, .ref 542), (1, .ref 0), (0, .retAddr 2)], [.int ((nI i) + (Int32.ofInt 3)), .retAddr 2, .int (xs (((nI i) + (Int32.ofInt 2))).toNatClampNeg), .int (xs (((nI i) + (Int32.ofInt 1))).toNatClampNeg), .ref 542, .int x1], h1, n1, cs, ss)) rfl hcs hss ?_
  refine lx_at C (by omega) (by omega) (lx_ok (meth := meth) (en := (322, .iaload, 1, (0, 0, 0, 0), [])) rfl).1 ?_
  refine lx_call C mt_ok (lx_ok (en := (323, .invokevirtual 37, 3, (3, 161, 11, 0), [1302, 1303, 1301])) rfl) (lo_inv mi_X11_asks rfl hr2 rfl) hM2 hcs hss ?_
  show lx_W G p l e s m below meth c b (326, [(3, .int (nI i)), (2, .ref 542), (1, .ref 0), (0, .retAddr 2)], [.int x1, .int x1], h2, n2, cs, ss)
  refine lx_brt C rfl (tg := 1173) rfl rfl hcs hss ?_
  exact kk h2 n2 cs ss hI2
theorem op_5 (C : lx_C G p s m meth c b L xs) (H : ab_Hand l G) (H2 : ab_Hand2 l G) (hi : i + 5 ≤ L) (hL : L ≤ 2560) (hI : lx_I h n cs ss) (kk : ∀ (h' : ax_H) (n' cs' ss' : Nat), lx_I h' n' cs' ss' → lx_W G p l e s m below meth c b (1173, [(3, .int (nI i)), (2, .ref 542), (1, .ref 0), (0, .retAddr 2)], [], h', n', cs', ss')) : lx_W G p l e s m below meth c b (331, [(3, .int (nI i)), (2, .ref 542), (1, .ref 0), (0, .retAddr 2)], [], h, n, cs, ss) := by
  obtain ⟨hcs, hss⟩ := lx_I_le hI
  have ix1 : (nI i + Int32.ofInt 1).toInt = (i : Int) + 1 := lo_ix hi hL 1 (by decide)
  have ix2 : (nI i + Int32.ofInt 2).toInt = (i : Int) + 2 := lo_ix hi hL 2 (by decide)
  have ix3 : (nI i + Int32.ofInt 3).toInt = (i : Int) + 3 := lo_ix hi hL 3 (by decide)
  have ix4 : (nI i + Int32.ofInt 4).toInt = (i : Int) + 4 := lo_ix hi hL 4 (by decide)
  refine lx_step C (en := (331, .aload_n 1, 1, (0, 0, 0, 0), [])) rfl (F := (332, [(3, .int (nI i)), (2, .ref 542), (1, .ref 0), (0, .retAddr 2)], [.ref 0], h, n, cs, ss)) rfl hcs hss ?_
  refine lx_step C (en := (332, .aload_n 0, 1, (0, 0, 0, 0), [])) rfl (F := (333, [(3, .int (nI i)), (2, .ref 542), (1, .ref 0), (0, .retAddr 2)], [.retAddr 2, .ref 0], h, n, cs, ss)) rfl hcs hss ?_
  refine lx_step C (en := (333, .iload_n 3, 1, (0, 0, 0, 0), [])) rfl (F := (334, [(3, .int (nI i)), (2, .ref 542), (1, .ref 0), (0, .retAddr 2)], [.int (nI i), .retAddr 2, .ref 0], h, n, cs, ss)) rfl hcs hss ?_
  refine lx_step C (en := (334, .iconst 1, 1, (0, 0, 0, 0), [])) rfl (F := (335, [(3, .int (nI i)), (2, .ref 542), (1, .ref 0), (0, .retAddr 2)], [.int (Int32.ofInt 1), .int (nI i), .retAddr 2, .ref 0], h, n, cs, ss)) rfl hcs hss ?_
  refine lx_step C (en := (335, .iadd, 1, (0, 0, 0, 0), [])) rfl (F := (336, [(3, .int (nI i)), (2, .ref 542), (1, .ref 0), (0, .retAddr 2)], [.int ((nI i) + (Int32.ofInt 1)), .retAddr 2, .ref 0], h, n, cs, ss)) rfl hcs hss ?_
  refine lx_at C (by omega) (by omega) (lx_ok (meth := meth) (en := (336, .iaload, 1, (0, 0, 0, 0), [])) rfl).1 ?_
  obtain ⟨x1, h1, n1, h2, n2, hM1, hM2, hT1, hI2⟩ := lx_ro H hI ((xs (((nI i) + (Int32.ofInt 1))).toNatClampNeg))
  obtain ⟨fs1, hr1⟩ := ht_x hI.1
  obtain ⟨fs2, hr2⟩ := ht_m hT1
  refine lx_call C mt_ok (lx_ok (en := (337, .invokevirtual 38, 3, (3, 107, 10, 0), [658, 659, 657])) rfl) (lo_inv mi_X10_row rfl hr1 rfl) hM1 hcs hss ?_
  show lx_W G p l e s m below meth c b (340, [(3, .int (nI i)), (2, .ref 542), (1, .ref 0), (0, .retAddr 2)], [.int x1], h1, n1, cs, ss)
  refine lx_step C (en := (340, .pop, 1, (0, 0, 0, 0), [])) rfl (F := (341, [(3, .int (nI i)), (2, .ref 542), (1, .ref 0), (0, .retAddr 2)], [], h1, n1, cs, ss)) rfl hcs hss ?_
  refine lx_step C (en := (341, .aload_n 2, 1, (0, 0, 0, 0), [])) rfl (F := (342, [(3, .int (nI i)), (2, .ref 542), (1, .ref 0), (0, .retAddr 2)], [.ref 542], h1, n1, cs, ss)) rfl hcs hss ?_
  refine lx_step C (en := (342, .aload_n 0, 1, (0, 0, 0, 0), [])) rfl (F := (343, [(3, .int (nI i)), (2, .ref 542), (1, .ref 0), (0, .retAddr 2)], [.retAddr 2, .ref 542], h1, n1, cs, ss)) rfl hcs hss ?_
  refine lx_step C (en := (343, .iload_n 3, 1, (0, 0, 0, 0), [])) rfl (F := (344, [(3, .int (nI i)), (2, .ref 542), (1, .ref 0), (0, .retAddr 2)], [.int (nI i), .retAddr 2, .ref 542], h1, n1, cs, ss)) rfl hcs hss ?_
  refine lx_step C (en := (344, .iconst 1, 1, (0, 0, 0, 0), [])) rfl (F := (345, [(3, .int (nI i)), (2, .ref 542), (1, .ref 0), (0, .retAddr 2)], [.int (Int32.ofInt 1), .int (nI i), .retAddr 2, .ref 542], h1, n1, cs, ss)) rfl hcs hss ?_
  refine lx_step C (en := (345, .iadd, 1, (0, 0, 0, 0), [])) rfl (F := (346, [(3, .int (nI i)), (2, .ref 542), (1, .ref 0), (0, .retAddr 2)], [.int ((nI i) + (Int32.ofInt 1)), .retAddr 2, .ref 542], h1, n1, cs, ss)) rfl hcs hss ?_
  refine lx_at C (by omega) (by omega) (lx_ok (meth := meth) (en := (346, .iaload, 1, (0, 0, 0, 0), [])) rfl).1 ?_
  refine lx_call C mt_ok (lx_ok (en := (347, .invokevirtual 42, 3, (3, 163, 11, 0), [1310, 1311, 1309])) rfl) (lo_inv mi_X11_row rfl hr2 rfl) hM2 hcs hss ?_
  show lx_W G p l e s m below meth c b (350, [(3, .int (nI i)), (2, .ref 542), (1, .ref 0), (0, .retAddr 2)], [.int x1], h2, n2, cs, ss)
  refine lx_step C (en := (350, .pop, 1, (0, 0, 0, 0), [])) rfl (F := (351, [(3, .int (nI i)), (2, .ref 542), (1, .ref 0), (0, .retAddr 2)], [], h2, n2, cs, ss)) rfl hcs hss ?_
  refine lx_step C (en := (351, .goto 822, 3, (0, 0, 0, 0), [])) rfl (F := (1173, [(3, .int (nI i)), (2, .ref 542), (1, .ref 0), (0, .retAddr 2)], [], h2, n2, cs, ss)) rfl hcs hss ?_
  exact kk h2 n2 cs ss hI2
theorem op_6 (C : lx_C G p s m meth c b L xs) (H : ab_Hand l G) (H2 : ab_Hand2 l G) (hi : i + 5 ≤ L) (hL : L ≤ 2560) (hI : lx_I h n cs ss) (kk : ∀ (h' : ax_H) (n' cs' ss' : Nat), lx_I h' n' cs' ss' → lx_W G p l e s m below meth c b (1173, [(3, .int (nI i)), (2, .ref 542), (1, .ref 0), (0, .retAddr 2)], [], h', n', cs', ss')) : lx_W G p l e s m below meth c b (354, [(3, .int (nI i)), (2, .ref 542), (1, .ref 0), (0, .retAddr 2)], [], h, n, cs, ss) := by
  obtain ⟨hcs, hss⟩ := lx_I_le hI
  have ix1 : (nI i + Int32.ofInt 1).toInt = (i : Int) + 1 := lo_ix hi hL 1 (by decide)
  have ix2 : (nI i + Int32.ofInt 2).toInt = (i : Int) + 2 := lo_ix hi hL 2 (by decide)
  have ix3 : (nI i + Int32.ofInt 3).toInt = (i : Int) + 3 := lo_ix hi hL 3 (by decide)
  have ix4 : (nI i + Int32.ofInt 4).toInt = (i : Int) + 4 := lo_ix hi hL 4 (by decide)
  refine lx_step C (en := (354, .aload_n 1, 1, (0, 0, 0, 0), [])) rfl (F := (355, [(3, .int (nI i)), (2, .ref 542), (1, .ref 0), (0, .retAddr 2)], [.ref 0], h, n, cs, ss)) rfl hcs hss ?_
  refine lx_step C (en := (355, .aload_n 0, 1, (0, 0, 0, 0), [])) rfl (F := (356, [(3, .int (nI i)), (2, .ref 542), (1, .ref 0), (0, .retAddr 2)], [.retAddr 2, .ref 0], h, n, cs, ss)) rfl hcs hss ?_
  refine lx_step C (en := (356, .iload_n 3, 1, (0, 0, 0, 0), [])) rfl (F := (357, [(3, .int (nI i)), (2, .ref 542), (1, .ref 0), (0, .retAddr 2)], [.int (nI i), .retAddr 2, .ref 0], h, n, cs, ss)) rfl hcs hss ?_
  refine lx_step C (en := (357, .iconst 1, 1, (0, 0, 0, 0), [])) rfl (F := (358, [(3, .int (nI i)), (2, .ref 542), (1, .ref 0), (0, .retAddr 2)], [.int (Int32.ofInt 1), .int (nI i), .retAddr 2, .ref 0], h, n, cs, ss)) rfl hcs hss ?_
  refine lx_step C (en := (358, .iadd, 1, (0, 0, 0, 0), [])) rfl (F := (359, [(3, .int (nI i)), (2, .ref 542), (1, .ref 0), (0, .retAddr 2)], [.int ((nI i) + (Int32.ofInt 1)), .retAddr 2, .ref 0], h, n, cs, ss)) rfl hcs hss ?_
  refine lx_at C (by omega) (by omega) (lx_ok (meth := meth) (en := (359, .iaload, 1, (0, 0, 0, 0), [])) rfl).1 ?_
  refine lx_step C (en := (360, .aload_n 0, 1, (0, 0, 0, 0), [])) rfl (F := (361, [(3, .int (nI i)), (2, .ref 542), (1, .ref 0), (0, .retAddr 2)], [.retAddr 2, .int (xs (((nI i) + (Int32.ofInt 1))).toNatClampNeg), .ref 0], h, n, cs, ss)) rfl hcs hss ?_
  refine lx_step C (en := (361, .iload_n 3, 1, (0, 0, 0, 0), [])) rfl (F := (362, [(3, .int (nI i)), (2, .ref 542), (1, .ref 0), (0, .retAddr 2)], [.int (nI i), .retAddr 2, .int (xs (((nI i) + (Int32.ofInt 1))).toNatClampNeg), .ref 0], h, n, cs, ss)) rfl hcs hss ?_
  refine lx_step C (en := (362, .iconst 2, 1, (0, 0, 0, 0), [])) rfl (F := (363, [(3, .int (nI i)), (2, .ref 542), (1, .ref 0), (0, .retAddr 2)], [.int (Int32.ofInt 2), .int (nI i), .retAddr 2, .int (xs (((nI i) + (Int32.ofInt 1))).toNatClampNeg), .ref 0], h, n, cs, ss)) rfl hcs hss ?_
  refine lx_step C (en := (363, .iadd, 1, (0, 0, 0, 0), [])) rfl (F := (364, [(3, .int (nI i)), (2, .ref 542), (1, .ref 0), (0, .retAddr 2)], [.int ((nI i) + (Int32.ofInt 2)), .retAddr 2, .int (xs (((nI i) + (Int32.ofInt 1))).toNatClampNeg), .ref 0], h, n, cs, ss)) rfl hcs hss ?_
  refine lx_at C (by omega) (by omega) (lx_ok (meth := meth) (en := (364, .iaload, 1, (0, 0, 0, 0), [])) rfl).1 ?_
  obtain ⟨fs1, hr1⟩ := ht_x hI.1
  refine lo_call C hI (pb_X10_sign H hI.1 (xs (((nI i) + (Int32.ofInt 1))).toNatClampNeg) (xs (((nI i) + (Int32.ofInt 2))).toNatClampNeg)) (by decide +kernel) rfl (lo_inv mi_X10_sign rfl hr1 rfl) ⟨rfl, rfl⟩ (fun x1 h1 n1 hI1 => ?_)
  refine lx_step C (en := (368, .pop, 1, (0, 0, 0, 0), [])) rfl (F := (369, [(3, .int (nI i)), (2, .ref 542), (1, .ref 0), (0, .retAddr 2)], [], h1, n1, cs, ss)) rfl hcs hss ?_
  refine lx_step C (en := (369, .aload_n 2, 1, (0, 0, 0, 0), [])) rfl (F := (370, [(3, .int (nI i)), (2, .ref 542), (1, .ref 0), (0, .retAddr 2)], [.ref 542], h1, n1, cs, ss)) rfl hcs hss ?_
  refine lx_step C (en := (370, .aload_n 0, 1, (0, 0, 0, 0), [])) rfl (F := (371, [(3, .int (nI i)), (2, .ref 542), (1, .ref 0), (0, .retAddr 2)], [.retAddr 2, .ref 542], h1, n1, cs, ss)) rfl hcs hss ?_
  refine lx_step C (en := (371, .iload_n 3, 1, (0, 0, 0, 0), [])) rfl (F := (372, [(3, .int (nI i)), (2, .ref 542), (1, .ref 0), (0, .retAddr 2)], [.int (nI i), .retAddr 2, .ref 542], h1, n1, cs, ss)) rfl hcs hss ?_
  refine lx_step C (en := (372, .iconst 1, 1, (0, 0, 0, 0), [])) rfl (F := (373, [(3, .int (nI i)), (2, .ref 542), (1, .ref 0), (0, .retAddr 2)], [.int (Int32.ofInt 1), .int (nI i), .retAddr 2, .ref 542], h1, n1, cs, ss)) rfl hcs hss ?_
  refine lx_step C (en := (373, .iadd, 1, (0, 0, 0, 0), [])) rfl (F := (374, [(3, .int (nI i)), (2, .ref 542), (1, .ref 0), (0, .retAddr 2)], [.int ((nI i) + (Int32.ofInt 1)), .retAddr 2, .ref 542], h1, n1, cs, ss)) rfl hcs hss ?_
  refine lx_at C (by omega) (by omega) (lx_ok (meth := meth) (en := (374, .iaload, 1, (0, 0, 0, 0), [])) rfl).1 ?_
  refine lx_step C (en := (375, .aload_n 0, 1, (0, 0, 0, 0), [])) rfl (F := (376, [(3, .int (nI i)), (2, .ref 542), (1, .ref 0), (0, .retAddr 2)], [.retAddr 2, .int (xs (((nI i) + (Int32.ofInt 1))).toNatClampNeg), .ref 542], h1, n1, cs, ss)) rfl hcs hss ?_
  refine lx_step C (en := (376, .iload_n 3, 1, (0, 0, 0, 0), [])) rfl (F := (377, [(3, .int (nI i)), (2, .ref 542), (1, .ref 0), (0, .retAddr 2)], [.int (nI i), .retAddr 2, .int (xs (((nI i) + (Int32.ofInt 1))).toNatClampNeg), .ref 542], h1, n1, cs, ss)) rfl hcs hss ?_
  refine lx_step C (en := (377, .iconst 2, 1, (0, 0, 0, 0), [])) rfl (F := (378, [(3, .int (nI i)), (2, .ref 542), (1, .ref 0), (0, .retAddr 2)], [.int (Int32.ofInt 2), .int (nI i), .retAddr 2, .int (xs (((nI i) + (Int32.ofInt 1))).toNatClampNeg), .ref 542], h1, n1, cs, ss)) rfl hcs hss ?_
  refine lx_step C (en := (378, .iadd, 1, (0, 0, 0, 0), [])) rfl (F := (379, [(3, .int (nI i)), (2, .ref 542), (1, .ref 0), (0, .retAddr 2)], [.int ((nI i) + (Int32.ofInt 2)), .retAddr 2, .int (xs (((nI i) + (Int32.ofInt 1))).toNatClampNeg), .ref 542], h1, n1, cs, ss)) rfl hcs hss ?_
  refine lx_at C (by omega) (by omega) (lx_ok (meth := meth) (en := (379, .iaload, 1, (0, 0, 0, 0), [])) rfl).1 ?_
  obtain ⟨fs2, hr2⟩ := ht_m hI1.1
  refine lo_call C hI1 (pb_X11_sign H hI1.1 (xs (((nI i) + (Int32.ofInt 1))).toNatClampNeg) (xs (((nI i) + (Int32.ofInt 2))).toNatClampNeg)) (by decide +kernel) rfl (lo_inv mi_X11_sign rfl hr2 rfl) ⟨rfl, rfl⟩ (fun x2 h2 n2 hI2 => ?_)
  refine lx_step C (en := (383, .pop, 1, (0, 0, 0, 0), [])) rfl (F := (384, [(3, .int (nI i)), (2, .ref 542), (1, .ref 0), (0, .retAddr 2)], [], h2, n2, cs, ss)) rfl hcs hss ?_
  refine lx_step C (en := (384, .goto 789, 3, (0, 0, 0, 0), [])) rfl (F := (1173, [(3, .int (nI i)), (2, .ref 542), (1, .ref 0), (0, .retAddr 2)], [], h2, n2, cs, ss)) rfl hcs hss ?_
  exact kk h2 n2 cs ss hI2
theorem op_7 (C : lx_C G p s m meth c b L xs) (H : ab_Hand l G) (H2 : ab_Hand2 l G) (hi : i + 5 ≤ L) (hL : L ≤ 2560) (hI : lx_I h n cs ss) (kk : ∀ (h' : ax_H) (n' cs' ss' : Nat), lx_I h' n' cs' ss' → lx_W G p l e s m below meth c b (1173, [(3, .int (nI i)), (2, .ref 542), (1, .ref 0), (0, .retAddr 2)], [], h', n', cs', ss')) : lx_W G p l e s m below meth c b (387, [(3, .int (nI i)), (2, .ref 542), (1, .ref 0), (0, .retAddr 2)], [], h, n, cs, ss) := by
  obtain ⟨hcs, hss⟩ := lx_I_le hI
  have ix1 : (nI i + Int32.ofInt 1).toInt = (i : Int) + 1 := lo_ix hi hL 1 (by decide)
  have ix2 : (nI i + Int32.ofInt 2).toInt = (i : Int) + 2 := lo_ix hi hL 2 (by decide)
  have ix3 : (nI i + Int32.ofInt 3).toInt = (i : Int) + 3 := lo_ix hi hL 3 (by decide)
  have ix4 : (nI i + Int32.ofInt 4).toInt = (i : Int) + 4 := lo_ix hi hL 4 (by decide)
  refine lx_step C (en := (387, .aload_n 1, 1, (0, 0, 0, 0), [])) rfl (F := (388, [(3, .int (nI i)), (2, .ref 542), (1, .ref 0), (0, .retAddr 2)], [.ref 0], h, n, cs, ss)) rfl hcs hss ?_
  refine lx_step C (en := (388, .aload_n 0, 1, (0, 0, 0, 0), [])) rfl (F := (389, [(3, .int (nI i)), (2, .ref 542), (1, .ref 0), (0, .retAddr 2)], [.retAddr 2, .ref 0], h, n, cs, ss)) rfl hcs hss ?_
  refine lx_step C (en := (389, .iload_n 3, 1, (0, 0, 0, 0), [])) rfl (F := (390, [(3, .int (nI i)), (2, .ref 542), (1, .ref 0), (0, .retAddr 2)], [.int (nI i), .retAddr 2, .ref 0], h, n, cs, ss)) rfl hcs hss ?_
  refine lx_step C (en := (390, .iconst 1, 1, (0, 0, 0, 0), [])) rfl (F := (391, [(3, .int (nI i)), (2, .ref 542), (1, .ref 0), (0, .retAddr 2)], [.int (Int32.ofInt 1), .int (nI i), .retAddr 2, .ref 0], h, n, cs, ss)) rfl hcs hss ?_
  refine lx_step C (en := (391, .iadd, 1, (0, 0, 0, 0), [])) rfl (F := (392, [(3, .int (nI i)), (2, .ref 542), (1, .ref 0), (0, .retAddr 2)], [.int ((nI i) + (Int32.ofInt 1)), .retAddr 2, .ref 0], h, n, cs, ss)) rfl hcs hss ?_
  refine lx_at C (by omega) (by omega) (lx_ok (meth := meth) (en := (392, .iaload, 1, (0, 0, 0, 0), [])) rfl).1 ?_
  obtain ⟨fs1, hr1⟩ := ht_x hI.1
  refine lo_call C hI (pb_X10_worth H hI.1 (xs (((nI i) + (Int32.ofInt 1))).toNatClampNeg)) (by decide +kernel) rfl (lo_inv mi_X10_worth rfl hr1 rfl) ⟨rfl, rfl⟩ (fun x1 h1 n1 hI1 => ?_)
  refine lx_step C (en := (396, .pop, 1, (0, 0, 0, 0), [])) rfl (F := (397, [(3, .int (nI i)), (2, .ref 542), (1, .ref 0), (0, .retAddr 2)], [], h1, n1, cs, ss)) rfl hcs hss ?_
  refine lx_step C (en := (397, .aload_n 2, 1, (0, 0, 0, 0), [])) rfl (F := (398, [(3, .int (nI i)), (2, .ref 542), (1, .ref 0), (0, .retAddr 2)], [.ref 542], h1, n1, cs, ss)) rfl hcs hss ?_
  refine lx_step C (en := (398, .aload_n 0, 1, (0, 0, 0, 0), [])) rfl (F := (399, [(3, .int (nI i)), (2, .ref 542), (1, .ref 0), (0, .retAddr 2)], [.retAddr 2, .ref 542], h1, n1, cs, ss)) rfl hcs hss ?_
  refine lx_step C (en := (399, .iload_n 3, 1, (0, 0, 0, 0), [])) rfl (F := (400, [(3, .int (nI i)), (2, .ref 542), (1, .ref 0), (0, .retAddr 2)], [.int (nI i), .retAddr 2, .ref 542], h1, n1, cs, ss)) rfl hcs hss ?_
  refine lx_step C (en := (400, .iconst 1, 1, (0, 0, 0, 0), [])) rfl (F := (401, [(3, .int (nI i)), (2, .ref 542), (1, .ref 0), (0, .retAddr 2)], [.int (Int32.ofInt 1), .int (nI i), .retAddr 2, .ref 542], h1, n1, cs, ss)) rfl hcs hss ?_
  refine lx_step C (en := (401, .iadd, 1, (0, 0, 0, 0), [])) rfl (F := (402, [(3, .int (nI i)), (2, .ref 542), (1, .ref 0), (0, .retAddr 2)], [.int ((nI i) + (Int32.ofInt 1)), .retAddr 2, .ref 542], h1, n1, cs, ss)) rfl hcs hss ?_
  refine lx_at C (by omega) (by omega) (lx_ok (meth := meth) (en := (402, .iaload, 1, (0, 0, 0, 0), [])) rfl).1 ?_
  obtain ⟨fs2, hr2⟩ := ht_m hI1.1
  refine lo_call C hI1 (pb_X11_worth H hI1.1 (xs (((nI i) + (Int32.ofInt 1))).toNatClampNeg)) (by decide +kernel) rfl (lo_inv mi_X11_worth rfl hr2 rfl) ⟨rfl, rfl⟩ (fun x2 h2 n2 hI2 => ?_)
  refine lx_step C (en := (406, .pop, 1, (0, 0, 0, 0), [])) rfl (F := (407, [(3, .int (nI i)), (2, .ref 542), (1, .ref 0), (0, .retAddr 2)], [], h2, n2, cs, ss)) rfl hcs hss ?_
  refine lx_step C (en := (407, .goto 766, 3, (0, 0, 0, 0), [])) rfl (F := (1173, [(3, .int (nI i)), (2, .ref 542), (1, .ref 0), (0, .retAddr 2)], [], h2, n2, cs, ss)) rfl hcs hss ?_
  exact kk h2 n2 cs ss hI2
theorem op_8 (C : lx_C G p s m meth c b L xs) (H : ab_Hand l G) (H2 : ab_Hand2 l G) (hi : i + 5 ≤ L) (hL : L ≤ 2560) (hI : lx_I h n cs ss) (kk : ∀ (h' : ax_H) (n' cs' ss' : Nat), lx_I h' n' cs' ss' → lx_W G p l e s m below meth c b (1173, [(3, .int (nI i)), (2, .ref 542), (1, .ref 0), (0, .retAddr 2)], [], h', n', cs', ss')) : lx_W G p l e s m below meth c b (410, [(3, .int (nI i)), (2, .ref 542), (1, .ref 0), (0, .retAddr 2)], [], h, n, cs, ss) := by
  obtain ⟨hcs, hss⟩ := lx_I_le hI
  have ix1 : (nI i + Int32.ofInt 1).toInt = (i : Int) + 1 := lo_ix hi hL 1 (by decide)
  have ix2 : (nI i + Int32.ofInt 2).toInt = (i : Int) + 2 := lo_ix hi hL 2 (by decide)
  have ix3 : (nI i + Int32.ofInt 3).toInt = (i : Int) + 3 := lo_ix hi hL 3 (by decide)
  have ix4 : (nI i + Int32.ofInt 4).toInt = (i : Int) + 4 := lo_ix hi hL 4 (by decide)
  refine lx_step C (en := (410, .aload_n 1, 1, (0, 0, 0, 0), [])) rfl (F := (411, [(3, .int (nI i)), (2, .ref 542), (1, .ref 0), (0, .retAddr 2)], [.ref 0], h, n, cs, ss)) rfl hcs hss ?_
  refine lx_step C (en := (411, .aload_n 0, 1, (0, 0, 0, 0), [])) rfl (F := (412, [(3, .int (nI i)), (2, .ref 542), (1, .ref 0), (0, .retAddr 2)], [.retAddr 2, .ref 0], h, n, cs, ss)) rfl hcs hss ?_
  refine lx_step C (en := (412, .iload_n 3, 1, (0, 0, 0, 0), [])) rfl (F := (413, [(3, .int (nI i)), (2, .ref 542), (1, .ref 0), (0, .retAddr 2)], [.int (nI i), .retAddr 2, .ref 0], h, n, cs, ss)) rfl hcs hss ?_
  refine lx_step C (en := (413, .iconst 1, 1, (0, 0, 0, 0), [])) rfl (F := (414, [(3, .int (nI i)), (2, .ref 542), (1, .ref 0), (0, .retAddr 2)], [.int (Int32.ofInt 1), .int (nI i), .retAddr 2, .ref 0], h, n, cs, ss)) rfl hcs hss ?_
  refine lx_step C (en := (414, .iadd, 1, (0, 0, 0, 0), [])) rfl (F := (415, [(3, .int (nI i)), (2, .ref 542), (1, .ref 0), (0, .retAddr 2)], [.int ((nI i) + (Int32.ofInt 1)), .retAddr 2, .ref 0], h, n, cs, ss)) rfl hcs hss ?_
  refine lx_at C (by omega) (by omega) (lx_ok (meth := meth) (en := (415, .iaload, 1, (0, 0, 0, 0), [])) rfl).1 ?_
  refine lx_step C (en := (416, .aload_n 0, 1, (0, 0, 0, 0), [])) rfl (F := (417, [(3, .int (nI i)), (2, .ref 542), (1, .ref 0), (0, .retAddr 2)], [.retAddr 2, .int (xs (((nI i) + (Int32.ofInt 1))).toNatClampNeg), .ref 0], h, n, cs, ss)) rfl hcs hss ?_
  refine lx_step C (en := (417, .iload_n 3, 1, (0, 0, 0, 0), [])) rfl (F := (418, [(3, .int (nI i)), (2, .ref 542), (1, .ref 0), (0, .retAddr 2)], [.int (nI i), .retAddr 2, .int (xs (((nI i) + (Int32.ofInt 1))).toNatClampNeg), .ref 0], h, n, cs, ss)) rfl hcs hss ?_
  refine lx_step C (en := (418, .iconst 2, 1, (0, 0, 0, 0), [])) rfl (F := (419, [(3, .int (nI i)), (2, .ref 542), (1, .ref 0), (0, .retAddr 2)], [.int (Int32.ofInt 2), .int (nI i), .retAddr 2, .int (xs (((nI i) + (Int32.ofInt 1))).toNatClampNeg), .ref 0], h, n, cs, ss)) rfl hcs hss ?_
  refine lx_step C (en := (419, .iadd, 1, (0, 0, 0, 0), [])) rfl (F := (420, [(3, .int (nI i)), (2, .ref 542), (1, .ref 0), (0, .retAddr 2)], [.int ((nI i) + (Int32.ofInt 2)), .retAddr 2, .int (xs (((nI i) + (Int32.ofInt 1))).toNatClampNeg), .ref 0], h, n, cs, ss)) rfl hcs hss ?_
  refine lx_at C (by omega) (by omega) (lx_ok (meth := meth) (en := (420, .iaload, 1, (0, 0, 0, 0), [])) rfl).1 ?_
  obtain ⟨fs1, hr1⟩ := ht_x hI.1
  refine lo_call C hI (pb_X10_keeps H hI.1 (xs (((nI i) + (Int32.ofInt 1))).toNatClampNeg) (xs (((nI i) + (Int32.ofInt 2))).toNatClampNeg)) (by decide +kernel) rfl (lo_inv mi_X10_keeps rfl hr1 rfl) ⟨rfl, rfl⟩ (fun x1 h1 n1 hI1 => ?_)
  refine lx_step C (en := (424, .pop, 1, (0, 0, 0, 0), [])) rfl (F := (425, [(3, .int (nI i)), (2, .ref 542), (1, .ref 0), (0, .retAddr 2)], [], h1, n1, cs, ss)) rfl hcs hss ?_
  refine lx_step C (en := (425, .aload_n 2, 1, (0, 0, 0, 0), [])) rfl (F := (426, [(3, .int (nI i)), (2, .ref 542), (1, .ref 0), (0, .retAddr 2)], [.ref 542], h1, n1, cs, ss)) rfl hcs hss ?_
  refine lx_step C (en := (426, .aload_n 0, 1, (0, 0, 0, 0), [])) rfl (F := (427, [(3, .int (nI i)), (2, .ref 542), (1, .ref 0), (0, .retAddr 2)], [.retAddr 2, .ref 542], h1, n1, cs, ss)) rfl hcs hss ?_
  refine lx_step C (en := (427, .iload_n 3, 1, (0, 0, 0, 0), [])) rfl (F := (428, [(3, .int (nI i)), (2, .ref 542), (1, .ref 0), (0, .retAddr 2)], [.int (nI i), .retAddr 2, .ref 542], h1, n1, cs, ss)) rfl hcs hss ?_
  refine lx_step C (en := (428, .iconst 1, 1, (0, 0, 0, 0), [])) rfl (F := (429, [(3, .int (nI i)), (2, .ref 542), (1, .ref 0), (0, .retAddr 2)], [.int (Int32.ofInt 1), .int (nI i), .retAddr 2, .ref 542], h1, n1, cs, ss)) rfl hcs hss ?_
  refine lx_step C (en := (429, .iadd, 1, (0, 0, 0, 0), [])) rfl (F := (430, [(3, .int (nI i)), (2, .ref 542), (1, .ref 0), (0, .retAddr 2)], [.int ((nI i) + (Int32.ofInt 1)), .retAddr 2, .ref 542], h1, n1, cs, ss)) rfl hcs hss ?_
  refine lx_at C (by omega) (by omega) (lx_ok (meth := meth) (en := (430, .iaload, 1, (0, 0, 0, 0), [])) rfl).1 ?_
  refine lx_step C (en := (431, .aload_n 0, 1, (0, 0, 0, 0), [])) rfl (F := (432, [(3, .int (nI i)), (2, .ref 542), (1, .ref 0), (0, .retAddr 2)], [.retAddr 2, .int (xs (((nI i) + (Int32.ofInt 1))).toNatClampNeg), .ref 542], h1, n1, cs, ss)) rfl hcs hss ?_
  refine lx_step C (en := (432, .iload_n 3, 1, (0, 0, 0, 0), [])) rfl (F := (433, [(3, .int (nI i)), (2, .ref 542), (1, .ref 0), (0, .retAddr 2)], [.int (nI i), .retAddr 2, .int (xs (((nI i) + (Int32.ofInt 1))).toNatClampNeg), .ref 542], h1, n1, cs, ss)) rfl hcs hss ?_
  refine lx_step C (en := (433, .iconst 2, 1, (0, 0, 0, 0), [])) rfl (F := (434, [(3, .int (nI i)), (2, .ref 542), (1, .ref 0), (0, .retAddr 2)], [.int (Int32.ofInt 2), .int (nI i), .retAddr 2, .int (xs (((nI i) + (Int32.ofInt 1))).toNatClampNeg), .ref 542], h1, n1, cs, ss)) rfl hcs hss ?_
  refine lx_step C (en := (434, .iadd, 1, (0, 0, 0, 0), [])) rfl (F := (435, [(3, .int (nI i)), (2, .ref 542), (1, .ref 0), (0, .retAddr 2)], [.int ((nI i) + (Int32.ofInt 2)), .retAddr 2, .int (xs (((nI i) + (Int32.ofInt 1))).toNatClampNeg), .ref 542], h1, n1, cs, ss)) rfl hcs hss ?_
  refine lx_at C (by omega) (by omega) (lx_ok (meth := meth) (en := (435, .iaload, 1, (0, 0, 0, 0), [])) rfl).1 ?_
  obtain ⟨fs2, hr2⟩ := ht_m hI1.1
  refine lo_call C hI1 (pb_X11_keeps H hI1.1 (xs (((nI i) + (Int32.ofInt 1))).toNatClampNeg) (xs (((nI i) + (Int32.ofInt 2))).toNatClampNeg)) (by decide +kernel) rfl (lo_inv mi_X11_keeps rfl hr2 rfl) ⟨rfl, rfl⟩ (fun x2 h2 n2 hI2 => ?_)
  refine lx_step C (en := (439, .pop, 1, (0, 0, 0, 0), [])) rfl (F := (440, [(3, .int (nI i)), (2, .ref 542), (1, .ref 0), (0, .retAddr 2)], [], h2, n2, cs, ss)) rfl hcs hss ?_
  refine lx_step C (en := (440, .goto 733, 3, (0, 0, 0, 0), [])) rfl (F := (1173, [(3, .int (nI i)), (2, .ref 542), (1, .ref 0), (0, .retAddr 2)], [], h2, n2, cs, ss)) rfl hcs hss ?_
  exact kk h2 n2 cs ss hI2
theorem op_9 (C : lx_C G p s m meth c b L xs) (H : ab_Hand l G) (H2 : ab_Hand2 l G) (hi : i + 5 ≤ L) (hL : L ≤ 2560) (hI : lx_I h n cs ss) (kk : ∀ (h' : ax_H) (n' cs' ss' : Nat), lx_I h' n' cs' ss' → lx_W G p l e s m below meth c b (1173, [(3, .int (nI i)), (2, .ref 542), (1, .ref 0), (0, .retAddr 2)], [], h', n', cs', ss')) : lx_W G p l e s m below meth c b (443, [(3, .int (nI i)), (2, .ref 542), (1, .ref 0), (0, .retAddr 2)], [], h, n, cs, ss) := by
  obtain ⟨hcs, hss⟩ := lx_I_le hI
  have ix1 : (nI i + Int32.ofInt 1).toInt = (i : Int) + 1 := lo_ix hi hL 1 (by decide)
  have ix2 : (nI i + Int32.ofInt 2).toInt = (i : Int) + 2 := lo_ix hi hL 2 (by decide)
  have ix3 : (nI i + Int32.ofInt 3).toInt = (i : Int) + 3 := lo_ix hi hL 3 (by decide)
  have ix4 : (nI i + Int32.ofInt 4).toInt = (i : Int) + 4 := lo_ix hi hL 4 (by decide)
  refine lx_step C (en := (443, .aload_n 1, 1, (0, 0, 0, 0), [])) rfl (F := (444, [(3, .int (nI i)), (2, .ref 542), (1, .ref 0), (0, .retAddr 2)], [.ref 0], h, n, cs, ss)) rfl hcs hss ?_
  refine lx_step C (en := (444, .aload_n 0, 1, (0, 0, 0, 0), [])) rfl (F := (445, [(3, .int (nI i)), (2, .ref 542), (1, .ref 0), (0, .retAddr 2)], [.retAddr 2, .ref 0], h, n, cs, ss)) rfl hcs hss ?_
  refine lx_step C (en := (445, .iload_n 3, 1, (0, 0, 0, 0), [])) rfl (F := (446, [(3, .int (nI i)), (2, .ref 542), (1, .ref 0), (0, .retAddr 2)], [.int (nI i), .retAddr 2, .ref 0], h, n, cs, ss)) rfl hcs hss ?_
  refine lx_step C (en := (446, .iconst 1, 1, (0, 0, 0, 0), [])) rfl (F := (447, [(3, .int (nI i)), (2, .ref 542), (1, .ref 0), (0, .retAddr 2)], [.int (Int32.ofInt 1), .int (nI i), .retAddr 2, .ref 0], h, n, cs, ss)) rfl hcs hss ?_
  refine lx_step C (en := (447, .iadd, 1, (0, 0, 0, 0), [])) rfl (F := (448, [(3, .int (nI i)), (2, .ref 542), (1, .ref 0), (0, .retAddr 2)], [.int ((nI i) + (Int32.ofInt 1)), .retAddr 2, .ref 0], h, n, cs, ss)) rfl hcs hss ?_
  refine lx_at C (by omega) (by omega) (lx_ok (meth := meth) (en := (448, .iaload, 1, (0, 0, 0, 0), [])) rfl).1 ?_
  refine lx_step C (en := (449, .aload_n 0, 1, (0, 0, 0, 0), [])) rfl (F := (450, [(3, .int (nI i)), (2, .ref 542), (1, .ref 0), (0, .retAddr 2)], [.retAddr 2, .int (xs (((nI i) + (Int32.ofInt 1))).toNatClampNeg), .ref 0], h, n, cs, ss)) rfl hcs hss ?_
  refine lx_step C (en := (450, .iload_n 3, 1, (0, 0, 0, 0), [])) rfl (F := (451, [(3, .int (nI i)), (2, .ref 542), (1, .ref 0), (0, .retAddr 2)], [.int (nI i), .retAddr 2, .int (xs (((nI i) + (Int32.ofInt 1))).toNatClampNeg), .ref 0], h, n, cs, ss)) rfl hcs hss ?_
  refine lx_step C (en := (451, .iconst 2, 1, (0, 0, 0, 0), [])) rfl (F := (452, [(3, .int (nI i)), (2, .ref 542), (1, .ref 0), (0, .retAddr 2)], [.int (Int32.ofInt 2), .int (nI i), .retAddr 2, .int (xs (((nI i) + (Int32.ofInt 1))).toNatClampNeg), .ref 0], h, n, cs, ss)) rfl hcs hss ?_
  refine lx_step C (en := (452, .iadd, 1, (0, 0, 0, 0), [])) rfl (F := (453, [(3, .int (nI i)), (2, .ref 542), (1, .ref 0), (0, .retAddr 2)], [.int ((nI i) + (Int32.ofInt 2)), .retAddr 2, .int (xs (((nI i) + (Int32.ofInt 1))).toNatClampNeg), .ref 0], h, n, cs, ss)) rfl hcs hss ?_
  refine lx_at C (by omega) (by omega) (lx_ok (meth := meth) (en := (453, .iaload, 1, (0, 0, 0, 0), [])) rfl).1 ?_
  obtain ⟨fs1, hr1⟩ := ht_x hI.1
  refine lo_call C hI (pb_X10_begins H hI.1 (xs (((nI i) + (Int32.ofInt 1))).toNatClampNeg) (xs (((nI i) + (Int32.ofInt 2))).toNatClampNeg)) (by decide +kernel) rfl (lo_inv mi_X10_begins rfl hr1 rfl) ⟨rfl, rfl⟩ (fun x1 h1 n1 hI1 => ?_)
  refine lx_step C (en := (457, .pop, 1, (0, 0, 0, 0), [])) rfl (F := (458, [(3, .int (nI i)), (2, .ref 542), (1, .ref 0), (0, .retAddr 2)], [], h1, n1, cs, ss)) rfl hcs hss ?_
  refine lx_step C (en := (458, .aload_n 2, 1, (0, 0, 0, 0), [])) rfl (F := (459, [(3, .int (nI i)), (2, .ref 542), (1, .ref 0), (0, .retAddr 2)], [.ref 542], h1, n1, cs, ss)) rfl hcs hss ?_
  refine lx_step C (en := (459, .aload_n 0, 1, (0, 0, 0, 0), [])) rfl (F := (460, [(3, .int (nI i)), (2, .ref 542), (1, .ref 0), (0, .retAddr 2)], [.retAddr 2, .ref 542], h1, n1, cs, ss)) rfl hcs hss ?_
  refine lx_step C (en := (460, .iload_n 3, 1, (0, 0, 0, 0), [])) rfl (F := (461, [(3, .int (nI i)), (2, .ref 542), (1, .ref 0), (0, .retAddr 2)], [.int (nI i), .retAddr 2, .ref 542], h1, n1, cs, ss)) rfl hcs hss ?_
  refine lx_step C (en := (461, .iconst 1, 1, (0, 0, 0, 0), [])) rfl (F := (462, [(3, .int (nI i)), (2, .ref 542), (1, .ref 0), (0, .retAddr 2)], [.int (Int32.ofInt 1), .int (nI i), .retAddr 2, .ref 542], h1, n1, cs, ss)) rfl hcs hss ?_
  refine lx_step C (en := (462, .iadd, 1, (0, 0, 0, 0), [])) rfl (F := (463, [(3, .int (nI i)), (2, .ref 542), (1, .ref 0), (0, .retAddr 2)], [.int ((nI i) + (Int32.ofInt 1)), .retAddr 2, .ref 542], h1, n1, cs, ss)) rfl hcs hss ?_
  refine lx_at C (by omega) (by omega) (lx_ok (meth := meth) (en := (463, .iaload, 1, (0, 0, 0, 0), [])) rfl).1 ?_
  refine lx_step C (en := (464, .aload_n 0, 1, (0, 0, 0, 0), [])) rfl (F := (465, [(3, .int (nI i)), (2, .ref 542), (1, .ref 0), (0, .retAddr 2)], [.retAddr 2, .int (xs (((nI i) + (Int32.ofInt 1))).toNatClampNeg), .ref 542], h1, n1, cs, ss)) rfl hcs hss ?_
  refine lx_step C (en := (465, .iload_n 3, 1, (0, 0, 0, 0), [])) rfl (F := (466, [(3, .int (nI i)), (2, .ref 542), (1, .ref 0), (0, .retAddr 2)], [.int (nI i), .retAddr 2, .int (xs (((nI i) + (Int32.ofInt 1))).toNatClampNeg), .ref 542], h1, n1, cs, ss)) rfl hcs hss ?_
  refine lx_step C (en := (466, .iconst 2, 1, (0, 0, 0, 0), [])) rfl (F := (467, [(3, .int (nI i)), (2, .ref 542), (1, .ref 0), (0, .retAddr 2)], [.int (Int32.ofInt 2), .int (nI i), .retAddr 2, .int (xs (((nI i) + (Int32.ofInt 1))).toNatClampNeg), .ref 542], h1, n1, cs, ss)) rfl hcs hss ?_
  refine lx_step C (en := (467, .iadd, 1, (0, 0, 0, 0), [])) rfl (F := (468, [(3, .int (nI i)), (2, .ref 542), (1, .ref 0), (0, .retAddr 2)], [.int ((nI i) + (Int32.ofInt 2)), .retAddr 2, .int (xs (((nI i) + (Int32.ofInt 1))).toNatClampNeg), .ref 542], h1, n1, cs, ss)) rfl hcs hss ?_
  refine lx_at C (by omega) (by omega) (lx_ok (meth := meth) (en := (468, .iaload, 1, (0, 0, 0, 0), [])) rfl).1 ?_
  obtain ⟨fs2, hr2⟩ := ht_m hI1.1
  refine lo_call C hI1 (pb_X11_begins H hI1.1 (xs (((nI i) + (Int32.ofInt 1))).toNatClampNeg) (xs (((nI i) + (Int32.ofInt 2))).toNatClampNeg)) (by decide +kernel) rfl (lo_inv mi_X11_begins rfl hr2 rfl) ⟨rfl, rfl⟩ (fun x2 h2 n2 hI2 => ?_)
  refine lx_step C (en := (472, .pop, 1, (0, 0, 0, 0), [])) rfl (F := (473, [(3, .int (nI i)), (2, .ref 542), (1, .ref 0), (0, .retAddr 2)], [], h2, n2, cs, ss)) rfl hcs hss ?_
  refine lx_step C (en := (473, .goto 700, 3, (0, 0, 0, 0), [])) rfl (F := (1173, [(3, .int (nI i)), (2, .ref 542), (1, .ref 0), (0, .retAddr 2)], [], h2, n2, cs, ss)) rfl hcs hss ?_
  exact kk h2 n2 cs ss hI2
theorem op_10 (C : lx_C G p s m meth c b L xs) (H : ab_Hand l G) (H2 : ab_Hand2 l G) (hi : i + 5 ≤ L) (hL : L ≤ 2560) (hI : lx_I h n cs ss) (kk : ∀ (h' : ax_H) (n' cs' ss' : Nat), lx_I h' n' cs' ss' → lx_W G p l e s m below meth c b (1173, [(3, .int (nI i)), (2, .ref 542), (1, .ref 0), (0, .retAddr 2)], [], h', n', cs', ss')) : lx_W G p l e s m below meth c b (476, [(3, .int (nI i)), (2, .ref 542), (1, .ref 0), (0, .retAddr 2)], [], h, n, cs, ss) := by
  obtain ⟨hcs, hss⟩ := lx_I_le hI
  have ix1 : (nI i + Int32.ofInt 1).toInt = (i : Int) + 1 := lo_ix hi hL 1 (by decide)
  have ix2 : (nI i + Int32.ofInt 2).toInt = (i : Int) + 2 := lo_ix hi hL 2 (by decide)
  have ix3 : (nI i + Int32.ofInt 3).toInt = (i : Int) + 3 := lo_ix hi hL 3 (by decide)
  have ix4 : (nI i + Int32.ofInt 4).toInt = (i : Int) + 4 := lo_ix hi hL 4 (by decide)
  refine lx_step C (en := (476, .aload_n 1, 1, (0, 0, 0, 0), [])) rfl (F := (477, [(3, .int (nI i)), (2, .ref 542), (1, .ref 0), (0, .retAddr 2)], [.ref 0], h, n, cs, ss)) rfl hcs hss ?_
  refine lx_step C (en := (477, .aload_n 0, 1, (0, 0, 0, 0), [])) rfl (F := (478, [(3, .int (nI i)), (2, .ref 542), (1, .ref 0), (0, .retAddr 2)], [.retAddr 2, .ref 0], h, n, cs, ss)) rfl hcs hss ?_
  refine lx_step C (en := (478, .iload_n 3, 1, (0, 0, 0, 0), [])) rfl (F := (479, [(3, .int (nI i)), (2, .ref 542), (1, .ref 0), (0, .retAddr 2)], [.int (nI i), .retAddr 2, .ref 0], h, n, cs, ss)) rfl hcs hss ?_
  refine lx_step C (en := (479, .iconst 1, 1, (0, 0, 0, 0), [])) rfl (F := (480, [(3, .int (nI i)), (2, .ref 542), (1, .ref 0), (0, .retAddr 2)], [.int (Int32.ofInt 1), .int (nI i), .retAddr 2, .ref 0], h, n, cs, ss)) rfl hcs hss ?_
  refine lx_step C (en := (480, .iadd, 1, (0, 0, 0, 0), [])) rfl (F := (481, [(3, .int (nI i)), (2, .ref 542), (1, .ref 0), (0, .retAddr 2)], [.int ((nI i) + (Int32.ofInt 1)), .retAddr 2, .ref 0], h, n, cs, ss)) rfl hcs hss ?_
  refine lx_at C (by omega) (by omega) (lx_ok (meth := meth) (en := (481, .iaload, 1, (0, 0, 0, 0), [])) rfl).1 ?_
  refine lx_step C (en := (482, .aload_n 0, 1, (0, 0, 0, 0), [])) rfl (F := (483, [(3, .int (nI i)), (2, .ref 542), (1, .ref 0), (0, .retAddr 2)], [.retAddr 2, .int (xs (((nI i) + (Int32.ofInt 1))).toNatClampNeg), .ref 0], h, n, cs, ss)) rfl hcs hss ?_
  refine lx_step C (en := (483, .iload_n 3, 1, (0, 0, 0, 0), [])) rfl (F := (484, [(3, .int (nI i)), (2, .ref 542), (1, .ref 0), (0, .retAddr 2)], [.int (nI i), .retAddr 2, .int (xs (((nI i) + (Int32.ofInt 1))).toNatClampNeg), .ref 0], h, n, cs, ss)) rfl hcs hss ?_
  refine lx_step C (en := (484, .iconst 2, 1, (0, 0, 0, 0), [])) rfl (F := (485, [(3, .int (nI i)), (2, .ref 542), (1, .ref 0), (0, .retAddr 2)], [.int (Int32.ofInt 2), .int (nI i), .retAddr 2, .int (xs (((nI i) + (Int32.ofInt 1))).toNatClampNeg), .ref 0], h, n, cs, ss)) rfl hcs hss ?_
  refine lx_step C (en := (485, .iadd, 1, (0, 0, 0, 0), [])) rfl (F := (486, [(3, .int (nI i)), (2, .ref 542), (1, .ref 0), (0, .retAddr 2)], [.int ((nI i) + (Int32.ofInt 2)), .retAddr 2, .int (xs (((nI i) + (Int32.ofInt 1))).toNatClampNeg), .ref 0], h, n, cs, ss)) rfl hcs hss ?_
  refine lx_at C (by omega) (by omega) (lx_ok (meth := meth) (en := (486, .iaload, 1, (0, 0, 0, 0), [])) rfl).1 ?_
  obtain ⟨fs1, hr1⟩ := ht_x hI.1
  refine lo_call C hI (pb_X10_ways H hI.1 (xs (((nI i) + (Int32.ofInt 1))).toNatClampNeg) (xs (((nI i) + (Int32.ofInt 2))).toNatClampNeg)) (by decide +kernel) rfl (lo_inv mi_X10_ways rfl hr1 rfl) ⟨rfl, rfl⟩ (fun x1 h1 n1 hI1 => ?_)
  refine lx_step C (en := (490, .pop, 1, (0, 0, 0, 0), [])) rfl (F := (491, [(3, .int (nI i)), (2, .ref 542), (1, .ref 0), (0, .retAddr 2)], [], h1, n1, cs, ss)) rfl hcs hss ?_
  refine lx_step C (en := (491, .aload_n 2, 1, (0, 0, 0, 0), [])) rfl (F := (492, [(3, .int (nI i)), (2, .ref 542), (1, .ref 0), (0, .retAddr 2)], [.ref 542], h1, n1, cs, ss)) rfl hcs hss ?_
  refine lx_step C (en := (492, .aload_n 0, 1, (0, 0, 0, 0), [])) rfl (F := (493, [(3, .int (nI i)), (2, .ref 542), (1, .ref 0), (0, .retAddr 2)], [.retAddr 2, .ref 542], h1, n1, cs, ss)) rfl hcs hss ?_
  refine lx_step C (en := (493, .iload_n 3, 1, (0, 0, 0, 0), [])) rfl (F := (494, [(3, .int (nI i)), (2, .ref 542), (1, .ref 0), (0, .retAddr 2)], [.int (nI i), .retAddr 2, .ref 542], h1, n1, cs, ss)) rfl hcs hss ?_
  refine lx_step C (en := (494, .iconst 1, 1, (0, 0, 0, 0), [])) rfl (F := (495, [(3, .int (nI i)), (2, .ref 542), (1, .ref 0), (0, .retAddr 2)], [.int (Int32.ofInt 1), .int (nI i), .retAddr 2, .ref 542], h1, n1, cs, ss)) rfl hcs hss ?_
  refine lx_step C (en := (495, .iadd, 1, (0, 0, 0, 0), [])) rfl (F := (496, [(3, .int (nI i)), (2, .ref 542), (1, .ref 0), (0, .retAddr 2)], [.int ((nI i) + (Int32.ofInt 1)), .retAddr 2, .ref 542], h1, n1, cs, ss)) rfl hcs hss ?_
  refine lx_at C (by omega) (by omega) (lx_ok (meth := meth) (en := (496, .iaload, 1, (0, 0, 0, 0), [])) rfl).1 ?_
  refine lx_step C (en := (497, .aload_n 0, 1, (0, 0, 0, 0), [])) rfl (F := (498, [(3, .int (nI i)), (2, .ref 542), (1, .ref 0), (0, .retAddr 2)], [.retAddr 2, .int (xs (((nI i) + (Int32.ofInt 1))).toNatClampNeg), .ref 542], h1, n1, cs, ss)) rfl hcs hss ?_
  refine lx_step C (en := (498, .iload_n 3, 1, (0, 0, 0, 0), [])) rfl (F := (499, [(3, .int (nI i)), (2, .ref 542), (1, .ref 0), (0, .retAddr 2)], [.int (nI i), .retAddr 2, .int (xs (((nI i) + (Int32.ofInt 1))).toNatClampNeg), .ref 542], h1, n1, cs, ss)) rfl hcs hss ?_
  refine lx_step C (en := (499, .iconst 2, 1, (0, 0, 0, 0), [])) rfl (F := (500, [(3, .int (nI i)), (2, .ref 542), (1, .ref 0), (0, .retAddr 2)], [.int (Int32.ofInt 2), .int (nI i), .retAddr 2, .int (xs (((nI i) + (Int32.ofInt 1))).toNatClampNeg), .ref 542], h1, n1, cs, ss)) rfl hcs hss ?_
  refine lx_step C (en := (500, .iadd, 1, (0, 0, 0, 0), [])) rfl (F := (501, [(3, .int (nI i)), (2, .ref 542), (1, .ref 0), (0, .retAddr 2)], [.int ((nI i) + (Int32.ofInt 2)), .retAddr 2, .int (xs (((nI i) + (Int32.ofInt 1))).toNatClampNeg), .ref 542], h1, n1, cs, ss)) rfl hcs hss ?_
  refine lx_at C (by omega) (by omega) (lx_ok (meth := meth) (en := (501, .iaload, 1, (0, 0, 0, 0), [])) rfl).1 ?_
  obtain ⟨fs2, hr2⟩ := ht_m hI1.1
  refine lo_call C hI1 (pb_X11_ways H hI1.1 (xs (((nI i) + (Int32.ofInt 1))).toNatClampNeg) (xs (((nI i) + (Int32.ofInt 2))).toNatClampNeg)) (by decide +kernel) rfl (lo_inv mi_X11_ways rfl hr2 rfl) ⟨rfl, rfl⟩ (fun x2 h2 n2 hI2 => ?_)
  refine lx_step C (en := (505, .pop, 1, (0, 0, 0, 0), [])) rfl (F := (506, [(3, .int (nI i)), (2, .ref 542), (1, .ref 0), (0, .retAddr 2)], [], h2, n2, cs, ss)) rfl hcs hss ?_
  refine lx_step C (en := (506, .goto 667, 3, (0, 0, 0, 0), [])) rfl (F := (1173, [(3, .int (nI i)), (2, .ref 542), (1, .ref 0), (0, .retAddr 2)], [], h2, n2, cs, ss)) rfl hcs hss ?_
  exact kk h2 n2 cs ss hI2
theorem op_11 (C : lx_C G p s m meth c b L xs) (H : ab_Hand l G) (H2 : ab_Hand2 l G) (hi : i + 5 ≤ L) (hL : L ≤ 2560) (hI : lx_I h n cs ss) (kk : ∀ (h' : ax_H) (n' cs' ss' : Nat), lx_I h' n' cs' ss' → lx_W G p l e s m below meth c b (1173, [(3, .int (nI i)), (2, .ref 542), (1, .ref 0), (0, .retAddr 2)], [], h', n', cs', ss')) : lx_W G p l e s m below meth c b (509, [(3, .int (nI i)), (2, .ref 542), (1, .ref 0), (0, .retAddr 2)], [], h, n, cs, ss) := by
  obtain ⟨hcs, hss⟩ := lx_I_le hI
  have ix1 : (nI i + Int32.ofInt 1).toInt = (i : Int) + 1 := lo_ix hi hL 1 (by decide)
  have ix2 : (nI i + Int32.ofInt 2).toInt = (i : Int) + 2 := lo_ix hi hL 2 (by decide)
  have ix3 : (nI i + Int32.ofInt 3).toInt = (i : Int) + 3 := lo_ix hi hL 3 (by decide)
  have ix4 : (nI i + Int32.ofInt 4).toInt = (i : Int) + 4 := lo_ix hi hL 4 (by decide)
  refine lx_step C (en := (509, .aload_n 1, 1, (0, 0, 0, 0), [])) rfl (F := (510, [(3, .int (nI i)), (2, .ref 542), (1, .ref 0), (0, .retAddr 2)], [.ref 0], h, n, cs, ss)) rfl hcs hss ?_
  refine lx_step C (en := (510, .aload_n 0, 1, (0, 0, 0, 0), [])) rfl (F := (511, [(3, .int (nI i)), (2, .ref 542), (1, .ref 0), (0, .retAddr 2)], [.retAddr 2, .ref 0], h, n, cs, ss)) rfl hcs hss ?_
  refine lx_step C (en := (511, .iload_n 3, 1, (0, 0, 0, 0), [])) rfl (F := (512, [(3, .int (nI i)), (2, .ref 542), (1, .ref 0), (0, .retAddr 2)], [.int (nI i), .retAddr 2, .ref 0], h, n, cs, ss)) rfl hcs hss ?_
  refine lx_step C (en := (512, .iconst 1, 1, (0, 0, 0, 0), [])) rfl (F := (513, [(3, .int (nI i)), (2, .ref 542), (1, .ref 0), (0, .retAddr 2)], [.int (Int32.ofInt 1), .int (nI i), .retAddr 2, .ref 0], h, n, cs, ss)) rfl hcs hss ?_
  refine lx_step C (en := (513, .iadd, 1, (0, 0, 0, 0), [])) rfl (F := (514, [(3, .int (nI i)), (2, .ref 542), (1, .ref 0), (0, .retAddr 2)], [.int ((nI i) + (Int32.ofInt 1)), .retAddr 2, .ref 0], h, n, cs, ss)) rfl hcs hss ?_
  refine lx_at C (by omega) (by omega) (lx_ok (meth := meth) (en := (514, .iaload, 1, (0, 0, 0, 0), [])) rfl).1 ?_
  refine lx_step C (en := (515, .aload_n 0, 1, (0, 0, 0, 0), [])) rfl (F := (516, [(3, .int (nI i)), (2, .ref 542), (1, .ref 0), (0, .retAddr 2)], [.retAddr 2, .int (xs (((nI i) + (Int32.ofInt 1))).toNatClampNeg), .ref 0], h, n, cs, ss)) rfl hcs hss ?_
  refine lx_step C (en := (516, .iload_n 3, 1, (0, 0, 0, 0), [])) rfl (F := (517, [(3, .int (nI i)), (2, .ref 542), (1, .ref 0), (0, .retAddr 2)], [.int (nI i), .retAddr 2, .int (xs (((nI i) + (Int32.ofInt 1))).toNatClampNeg), .ref 0], h, n, cs, ss)) rfl hcs hss ?_
  refine lx_step C (en := (517, .iconst 2, 1, (0, 0, 0, 0), [])) rfl (F := (518, [(3, .int (nI i)), (2, .ref 542), (1, .ref 0), (0, .retAddr 2)], [.int (Int32.ofInt 2), .int (nI i), .retAddr 2, .int (xs (((nI i) + (Int32.ofInt 1))).toNatClampNeg), .ref 0], h, n, cs, ss)) rfl hcs hss ?_
  refine lx_step C (en := (518, .iadd, 1, (0, 0, 0, 0), [])) rfl (F := (519, [(3, .int (nI i)), (2, .ref 542), (1, .ref 0), (0, .retAddr 2)], [.int ((nI i) + (Int32.ofInt 2)), .retAddr 2, .int (xs (((nI i) + (Int32.ofInt 1))).toNatClampNeg), .ref 0], h, n, cs, ss)) rfl hcs hss ?_
  refine lx_at C (by omega) (by omega) (lx_ok (meth := meth) (en := (519, .iaload, 1, (0, 0, 0, 0), [])) rfl).1 ?_
  refine lx_step C (en := (520, .aload_n 0, 1, (0, 0, 0, 0), [])) rfl (F := (521, [(3, .int (nI i)), (2, .ref 542), (1, .ref 0), (0, .retAddr 2)], [.retAddr 2, .int (xs (((nI i) + (Int32.ofInt 2))).toNatClampNeg), .int (xs (((nI i) + (Int32.ofInt 1))).toNatClampNeg), .ref 0], h, n, cs, ss)) rfl hcs hss ?_
  refine lx_step C (en := (521, .iload_n 3, 1, (0, 0, 0, 0), [])) rfl (F := (522, [(3, .int (nI i)), (2, .ref 542), (1, .ref 0), (0, .retAddr 2)], [.int (nI i), .retAddr 2, .int (xs (((nI i) + (Int32.ofInt 2))).toNatClampNeg), .int (xs (((nI i) + (Int32.ofInt 1))).toNatClampNeg), .ref 0], h, n, cs, ss)) rfl hcs hss ?_
  refine lx_step C (en := (522, .iconst 3, 1, (0, 0, 0, 0), [])) rfl (F := (523, [(3, .int (nI i)), (2, .ref 542), (1, .ref 0), (0, .retAddr 2)], [.int (Int32.ofInt 3), .int (nI i), .retAddr 2, .int (xs (((nI i) + (Int32.ofInt 2))).toNatClampNeg), .int (xs (((nI i) + (Int32.ofInt 1))).toNatClampNeg), .ref 0], h, n, cs, ss)) rfl hcs hss ?_
  refine lx_step C (en := (523, .iadd, 1, (0, 0, 0, 0), [])) rfl (F := (524, [(3, .int (nI i)), (2, .ref 542), (1, .ref 0), (0, .retAddr 2)], [.int ((nI i) + (Int32.ofInt 3)), .retAddr 2, .int (xs (((nI i) + (Int32.ofInt 2))).toNatClampNeg), .int (xs (((nI i) + (Int32.ofInt 1))).toNatClampNeg), .ref 0], h, n, cs, ss)) rfl hcs hss ?_
  refine lx_at C (by omega) (by omega) (lx_ok (meth := meth) (en := (524, .iaload, 1, (0, 0, 0, 0), [])) rfl).1 ?_
  refine lx_step C (en := (525, .aload_n 0, 1, (0, 0, 0, 0), [])) rfl (F := (526, [(3, .int (nI i)), (2, .ref 542), (1, .ref 0), (0, .retAddr 2)], [.retAddr 2, .int (xs (((nI i) + (Int32.ofInt 3))).toNatClampNeg), .int (xs (((nI i) + (Int32.ofInt 2))).toNatClampNeg), .int (xs (((nI i) + (Int32.ofInt 1))).toNatClampNeg), .ref 0], h, n, cs, ss)) rfl hcs hss ?_
  refine lx_step C (en := (526, .iload_n 3, 1, (0, 0, 0, 0), [])) rfl (F := (527, [(3, .int (nI i)), (2, .ref 542), (1, .ref 0), (0, .retAddr 2)], [.int (nI i), .retAddr 2, .int (xs (((nI i) + (Int32.ofInt 3))).toNatClampNeg), .int (xs (((nI i) + (Int32.ofInt 2))).toNatClampNeg), .int (xs (((nI i) + (Int32.ofInt 1))).toNatClampNeg), .ref 0], h, n, cs, ss)) rfl hcs hss ?_
  refine lx_step C (en := (527, .iconst 4, 1, (0, 0, 0, 0), [])) rfl (F := (528, [(3, .int (nI i)), (2, .ref 542), (1, .ref 0), (0, .retAddr 2)], [.int (Int32.ofInt 4), .int (nI i), .retAddr 2, .int (xs (((nI i) + (Int32.ofInt 3))).toNatClampNeg), .int (xs (((nI i) + (Int32.ofInt 2))).toNatClampNeg), .int (xs (((nI i) + (Int32.ofInt 1))).toNatClampNeg), .ref 0], h, n, cs, ss)) rfl hcs hss ?_
  refine lx_step C (en := (528, .iadd, 1, (0, 0, 0, 0), [])) rfl (F := (529, [(3, .int (nI i)), (2, .ref 542), (1, .ref 0), (0, .retAddr 2)], [.int ((nI i) + (Int32.ofInt 4)), .retAddr 2, .int (xs (((nI i) + (Int32.ofInt 3))).toNatClampNeg), .int (xs (((nI i) + (Int32.ofInt 2))).toNatClampNeg), .int (xs (((nI i) + (Int32.ofInt 1))).toNatClampNeg), .ref 0], h, n, cs, ss)) rfl hcs hss ?_
  refine lx_at C (by omega) (by omega) (lx_ok (meth := meth) (en := (529, .iaload, 1, (0, 0, 0, 0), [])) rfl).1 ?_
  obtain ⟨fs1, hr1⟩ := ht_x hI.1
  refine lo_call C hI (pb_X10_write H hI.1 (xs (((nI i) + (Int32.ofInt 1))).toNatClampNeg) (xs (((nI i) + (Int32.ofInt 2))).toNatClampNeg) (xs (((nI i) + (Int32.ofInt 3))).toNatClampNeg) (xs (((nI i) + (Int32.ofInt 4))).toNatClampNeg)) (by decide +kernel) rfl (lo_inv mi_X10_write rfl hr1 rfl) ⟨rfl, rfl⟩ (fun x1 h1 n1 hI1 => ?_)
  refine lx_step C (en := (533, .pop, 1, (0, 0, 0, 0), [])) rfl (F := (534, [(3, .int (nI i)), (2, .ref 542), (1, .ref 0), (0, .retAddr 2)], [], h1, n1, cs, ss)) rfl hcs hss ?_
  refine lx_step C (en := (534, .aload_n 2, 1, (0, 0, 0, 0), [])) rfl (F := (535, [(3, .int (nI i)), (2, .ref 542), (1, .ref 0), (0, .retAddr 2)], [.ref 542], h1, n1, cs, ss)) rfl hcs hss ?_
  refine lx_step C (en := (535, .aload_n 0, 1, (0, 0, 0, 0), [])) rfl (F := (536, [(3, .int (nI i)), (2, .ref 542), (1, .ref 0), (0, .retAddr 2)], [.retAddr 2, .ref 542], h1, n1, cs, ss)) rfl hcs hss ?_
  refine lx_step C (en := (536, .iload_n 3, 1, (0, 0, 0, 0), [])) rfl (F := (537, [(3, .int (nI i)), (2, .ref 542), (1, .ref 0), (0, .retAddr 2)], [.int (nI i), .retAddr 2, .ref 542], h1, n1, cs, ss)) rfl hcs hss ?_
  refine lx_step C (en := (537, .iconst 1, 1, (0, 0, 0, 0), [])) rfl (F := (538, [(3, .int (nI i)), (2, .ref 542), (1, .ref 0), (0, .retAddr 2)], [.int (Int32.ofInt 1), .int (nI i), .retAddr 2, .ref 542], h1, n1, cs, ss)) rfl hcs hss ?_
  refine lx_step C (en := (538, .iadd, 1, (0, 0, 0, 0), [])) rfl (F := (539, [(3, .int (nI i)), (2, .ref 542), (1, .ref 0), (0, .retAddr 2)], [.int ((nI i) + (Int32.ofInt 1)), .retAddr 2, .ref 542], h1, n1, cs, ss)) rfl hcs hss ?_
  refine lx_at C (by omega) (by omega) (lx_ok (meth := meth) (en := (539, .iaload, 1, (0, 0, 0, 0), [])) rfl).1 ?_
  refine lx_step C (en := (540, .aload_n 0, 1, (0, 0, 0, 0), [])) rfl (F := (541, [(3, .int (nI i)), (2, .ref 542), (1, .ref 0), (0, .retAddr 2)], [.retAddr 2, .int (xs (((nI i) + (Int32.ofInt 1))).toNatClampNeg), .ref 542], h1, n1, cs, ss)) rfl hcs hss ?_
  refine lx_step C (en := (541, .iload_n 3, 1, (0, 0, 0, 0), [])) rfl (F := (542, [(3, .int (nI i)), (2, .ref 542), (1, .ref 0), (0, .retAddr 2)], [.int (nI i), .retAddr 2, .int (xs (((nI i) + (Int32.ofInt 1))).toNatClampNeg), .ref 542], h1, n1, cs, ss)) rfl hcs hss ?_
  refine lx_step C (en := (542, .iconst 2, 1, (0, 0, 0, 0), [])) rfl (F := (543, [(3, .int (nI i)), (2, .ref 542), (1, .ref 0), (0, .retAddr 2)], [.int (Int32.ofInt 2), .int (nI i), .retAddr 2, .int (xs (((nI i) + (Int32.ofInt 1))).toNatClampNeg), .ref 542], h1, n1, cs, ss)) rfl hcs hss ?_
  refine lx_step C (en := (543, .iadd, 1, (0, 0, 0, 0), [])) rfl (F := (544, [(3, .int (nI i)), (2, .ref 542), (1, .ref 0), (0, .retAddr 2)], [.int ((nI i) + (Int32.ofInt 2)), .retAddr 2, .int (xs (((nI i) + (Int32.ofInt 1))).toNatClampNeg), .ref 542], h1, n1, cs, ss)) rfl hcs hss ?_
  refine lx_at C (by omega) (by omega) (lx_ok (meth := meth) (en := (544, .iaload, 1, (0, 0, 0, 0), [])) rfl).1 ?_
  refine lx_step C (en := (545, .aload_n 0, 1, (0, 0, 0, 0), [])) rfl (F := (546, [(3, .int (nI i)), (2, .ref 542), (1, .ref 0), (0, .retAddr 2)], [.retAddr 2, .int (xs (((nI i) + (Int32.ofInt 2))).toNatClampNeg), .int (xs (((nI i) + (Int32.ofInt 1))).toNatClampNeg), .ref 542], h1, n1, cs, ss)) rfl hcs hss ?_
  refine lx_step C (en := (546, .iload_n 3, 1, (0, 0, 0, 0), [])) rfl (F := (547, [(3, .int (nI i)), (2, .ref 542), (1, .ref 0), (0, .retAddr 2)], [.int (nI i), .retAddr 2, .int (xs (((nI i) + (Int32.ofInt 2))).toNatClampNeg), .int (xs (((nI i) + (Int32.ofInt 1))).toNatClampNeg), .ref 542], h1, n1, cs, ss)) rfl hcs hss ?_
  refine lx_step C (en := (547, .iconst 3, 1, (0, 0, 0, 0), [])) rfl (F := (548, [(3, .int (nI i)), (2, .ref 542), (1, .ref 0), (0, .retAddr 2)], [.int (Int32.ofInt 3), .int (nI i), .retAddr 2, .int (xs (((nI i) + (Int32.ofInt 2))).toNatClampNeg), .int (xs (((nI i) + (Int32.ofInt 1))).toNatClampNeg), .ref 542], h1, n1, cs, ss)) rfl hcs hss ?_
  refine lx_step C (en := (548, .iadd, 1, (0, 0, 0, 0), [])) rfl (F := (549, [(3, .int (nI i)), (2, .ref 542), (1, .ref 0), (0, .retAddr 2)], [.int ((nI i) + (Int32.ofInt 3)), .retAddr 2, .int (xs (((nI i) + (Int32.ofInt 2))).toNatClampNeg), .int (xs (((nI i) + (Int32.ofInt 1))).toNatClampNeg), .ref 542], h1, n1, cs, ss)) rfl hcs hss ?_
  refine lx_at C (by omega) (by omega) (lx_ok (meth := meth) (en := (549, .iaload, 1, (0, 0, 0, 0), [])) rfl).1 ?_
  refine lx_step C (en := (550, .aload_n 0, 1, (0, 0, 0, 0), [])) rfl (F := (551, [(3, .int (nI i)), (2, .ref 542), (1, .ref 0), (0, .retAddr 2)], [.retAddr 2, .int (xs (((nI i) + (Int32.ofInt 3))).toNatClampNeg), .int (xs (((nI i) + (Int32.ofInt 2))).toNatClampNeg), .int (xs (((nI i) + (Int32.ofInt 1))).toNatClampNeg), .ref 542], h1, n1, cs, ss)) rfl hcs hss ?_
  refine lx_step C (en := (551, .iload_n 3, 1, (0, 0, 0, 0), [])) rfl (F := (552, [(3, .int (nI i)), (2, .ref 542), (1, .ref 0), (0, .retAddr 2)], [.int (nI i), .retAddr 2, .int (xs (((nI i) + (Int32.ofInt 3))).toNatClampNeg), .int (xs (((nI i) + (Int32.ofInt 2))).toNatClampNeg), .int (xs (((nI i) + (Int32.ofInt 1))).toNatClampNeg), .ref 542], h1, n1, cs, ss)) rfl hcs hss ?_
  refine lx_step C (en := (552, .iconst 4, 1, (0, 0, 0, 0), [])) rfl (F := (553, [(3, .int (nI i)), (2, .ref 542), (1, .ref 0), (0, .retAddr 2)], [.int (Int32.ofInt 4), .int (nI i), .retAddr 2, .int (xs (((nI i) + (Int32.ofInt 3))).toNatClampNeg), .int (xs (((nI i) + (Int32.ofInt 2))).toNatClampNeg), .int (xs (((nI i) + (Int32.ofInt 1))).toNatClampNeg), .ref 542], h1, n1, cs, ss)) rfl hcs hss ?_
  refine lx_step C (en := (553, .iadd, 1, (0, 0, 0, 0), [])) rfl (F := (554, [(3, .int (nI i)), (2, .ref 542), (1, .ref 0), (0, .retAddr 2)], [.int ((nI i) + (Int32.ofInt 4)), .retAddr 2, .int (xs (((nI i) + (Int32.ofInt 3))).toNatClampNeg), .int (xs (((nI i) + (Int32.ofInt 2))).toNatClampNeg), .int (xs (((nI i) + (Int32.ofInt 1))).toNatClampNeg), .ref 542], h1, n1, cs, ss)) rfl hcs hss ?_
  refine lx_at C (by omega) (by omega) (lx_ok (meth := meth) (en := (554, .iaload, 1, (0, 0, 0, 0), [])) rfl).1 ?_
  obtain ⟨fs2, hr2⟩ := ht_m hI1.1
  refine lo_call C hI1 (pb_X11_write H hI1.1 (xs (((nI i) + (Int32.ofInt 1))).toNatClampNeg) (xs (((nI i) + (Int32.ofInt 2))).toNatClampNeg) (xs (((nI i) + (Int32.ofInt 3))).toNatClampNeg) (xs (((nI i) + (Int32.ofInt 4))).toNatClampNeg)) (by decide +kernel) rfl (lo_inv mi_X11_write rfl hr2 rfl) ⟨rfl, rfl⟩ (fun x2 h2 n2 hI2 => ?_)
  refine lx_step C (en := (558, .pop, 1, (0, 0, 0, 0), [])) rfl (F := (559, [(3, .int (nI i)), (2, .ref 542), (1, .ref 0), (0, .retAddr 2)], [], h2, n2, cs, ss)) rfl hcs hss ?_
  refine lx_step C (en := (559, .goto 614, 3, (0, 0, 0, 0), [])) rfl (F := (1173, [(3, .int (nI i)), (2, .ref 542), (1, .ref 0), (0, .retAddr 2)], [], h2, n2, cs, ss)) rfl hcs hss ?_
  exact kk h2 n2 cs ss hI2
theorem op_12 (C : lx_C G p s m meth c b L xs) (H : ab_Hand l G) (H2 : ab_Hand2 l G) (hi : i + 5 ≤ L) (hL : L ≤ 2560) (hI : lx_I h n cs ss) (kk : ∀ (h' : ax_H) (n' cs' ss' : Nat), lx_I h' n' cs' ss' → lx_W G p l e s m below meth c b (1173, [(3, .int (nI i)), (2, .ref 542), (1, .ref 0), (0, .retAddr 2)], [], h', n', cs', ss')) : lx_W G p l e s m below meth c b (562, [(3, .int (nI i)), (2, .ref 542), (1, .ref 0), (0, .retAddr 2)], [], h, n, cs, ss) := by
  obtain ⟨hcs, hss⟩ := lx_I_le hI
  have ix1 : (nI i + Int32.ofInt 1).toInt = (i : Int) + 1 := lo_ix hi hL 1 (by decide)
  have ix2 : (nI i + Int32.ofInt 2).toInt = (i : Int) + 2 := lo_ix hi hL 2 (by decide)
  have ix3 : (nI i + Int32.ofInt 3).toInt = (i : Int) + 3 := lo_ix hi hL 3 (by decide)
  have ix4 : (nI i + Int32.ofInt 4).toInt = (i : Int) + 4 := lo_ix hi hL 4 (by decide)
  refine lx_step C (en := (562, .aload_n 1, 1, (0, 0, 0, 0), [])) rfl (F := (563, [(3, .int (nI i)), (2, .ref 542), (1, .ref 0), (0, .retAddr 2)], [.ref 0], h, n, cs, ss)) rfl hcs hss ?_
  refine lx_step C (en := (563, .aload_n 0, 1, (0, 0, 0, 0), [])) rfl (F := (564, [(3, .int (nI i)), (2, .ref 542), (1, .ref 0), (0, .retAddr 2)], [.retAddr 2, .ref 0], h, n, cs, ss)) rfl hcs hss ?_
  refine lx_step C (en := (564, .iload_n 3, 1, (0, 0, 0, 0), [])) rfl (F := (565, [(3, .int (nI i)), (2, .ref 542), (1, .ref 0), (0, .retAddr 2)], [.int (nI i), .retAddr 2, .ref 0], h, n, cs, ss)) rfl hcs hss ?_
  refine lx_step C (en := (565, .iconst 1, 1, (0, 0, 0, 0), [])) rfl (F := (566, [(3, .int (nI i)), (2, .ref 542), (1, .ref 0), (0, .retAddr 2)], [.int (Int32.ofInt 1), .int (nI i), .retAddr 2, .ref 0], h, n, cs, ss)) rfl hcs hss ?_
  refine lx_step C (en := (566, .iadd, 1, (0, 0, 0, 0), [])) rfl (F := (567, [(3, .int (nI i)), (2, .ref 542), (1, .ref 0), (0, .retAddr 2)], [.int ((nI i) + (Int32.ofInt 1)), .retAddr 2, .ref 0], h, n, cs, ss)) rfl hcs hss ?_
  refine lx_at C (by omega) (by omega) (lx_ok (meth := meth) (en := (567, .iaload, 1, (0, 0, 0, 0), [])) rfl).1 ?_
  refine lx_step C (en := (568, .aload_n 0, 1, (0, 0, 0, 0), [])) rfl (F := (569, [(3, .int (nI i)), (2, .ref 542), (1, .ref 0), (0, .retAddr 2)], [.retAddr 2, .int (xs (((nI i) + (Int32.ofInt 1))).toNatClampNeg), .ref 0], h, n, cs, ss)) rfl hcs hss ?_
  refine lx_step C (en := (569, .iload_n 3, 1, (0, 0, 0, 0), [])) rfl (F := (570, [(3, .int (nI i)), (2, .ref 542), (1, .ref 0), (0, .retAddr 2)], [.int (nI i), .retAddr 2, .int (xs (((nI i) + (Int32.ofInt 1))).toNatClampNeg), .ref 0], h, n, cs, ss)) rfl hcs hss ?_
  refine lx_step C (en := (570, .iconst 2, 1, (0, 0, 0, 0), [])) rfl (F := (571, [(3, .int (nI i)), (2, .ref 542), (1, .ref 0), (0, .retAddr 2)], [.int (Int32.ofInt 2), .int (nI i), .retAddr 2, .int (xs (((nI i) + (Int32.ofInt 1))).toNatClampNeg), .ref 0], h, n, cs, ss)) rfl hcs hss ?_
  refine lx_step C (en := (571, .iadd, 1, (0, 0, 0, 0), [])) rfl (F := (572, [(3, .int (nI i)), (2, .ref 542), (1, .ref 0), (0, .retAddr 2)], [.int ((nI i) + (Int32.ofInt 2)), .retAddr 2, .int (xs (((nI i) + (Int32.ofInt 1))).toNatClampNeg), .ref 0], h, n, cs, ss)) rfl hcs hss ?_
  refine lx_at C (by omega) (by omega) (lx_ok (meth := meth) (en := (572, .iaload, 1, (0, 0, 0, 0), [])) rfl).1 ?_
  obtain ⟨fs1, hr1⟩ := ht_x hI.1
  refine lo_call C hI (pb_X10_board H hI.1 (xs (((nI i) + (Int32.ofInt 1))).toNatClampNeg) (xs (((nI i) + (Int32.ofInt 2))).toNatClampNeg)) (by decide +kernel) rfl (lo_inv mi_X10_board rfl hr1 rfl) ⟨rfl, rfl⟩ (fun x1 h1 n1 hI1 => ?_)
  refine lx_step C (en := (576, .pop, 1, (0, 0, 0, 0), [])) rfl (F := (577, [(3, .int (nI i)), (2, .ref 542), (1, .ref 0), (0, .retAddr 2)], [], h1, n1, cs, ss)) rfl hcs hss ?_
  refine lx_step C (en := (577, .aload_n 2, 1, (0, 0, 0, 0), [])) rfl (F := (578, [(3, .int (nI i)), (2, .ref 542), (1, .ref 0), (0, .retAddr 2)], [.ref 542], h1, n1, cs, ss)) rfl hcs hss ?_
  refine lx_step C (en := (578, .aload_n 0, 1, (0, 0, 0, 0), [])) rfl (F := (579, [(3, .int (nI i)), (2, .ref 542), (1, .ref 0), (0, .retAddr 2)], [.retAddr 2, .ref 542], h1, n1, cs, ss)) rfl hcs hss ?_
  refine lx_step C (en := (579, .iload_n 3, 1, (0, 0, 0, 0), [])) rfl (F := (580, [(3, .int (nI i)), (2, .ref 542), (1, .ref 0), (0, .retAddr 2)], [.int (nI i), .retAddr 2, .ref 542], h1, n1, cs, ss)) rfl hcs hss ?_
  refine lx_step C (en := (580, .iconst 1, 1, (0, 0, 0, 0), [])) rfl (F := (581, [(3, .int (nI i)), (2, .ref 542), (1, .ref 0), (0, .retAddr 2)], [.int (Int32.ofInt 1), .int (nI i), .retAddr 2, .ref 542], h1, n1, cs, ss)) rfl hcs hss ?_
  refine lx_step C (en := (581, .iadd, 1, (0, 0, 0, 0), [])) rfl (F := (582, [(3, .int (nI i)), (2, .ref 542), (1, .ref 0), (0, .retAddr 2)], [.int ((nI i) + (Int32.ofInt 1)), .retAddr 2, .ref 542], h1, n1, cs, ss)) rfl hcs hss ?_
  refine lx_at C (by omega) (by omega) (lx_ok (meth := meth) (en := (582, .iaload, 1, (0, 0, 0, 0), [])) rfl).1 ?_
  refine lx_step C (en := (583, .aload_n 0, 1, (0, 0, 0, 0), [])) rfl (F := (584, [(3, .int (nI i)), (2, .ref 542), (1, .ref 0), (0, .retAddr 2)], [.retAddr 2, .int (xs (((nI i) + (Int32.ofInt 1))).toNatClampNeg), .ref 542], h1, n1, cs, ss)) rfl hcs hss ?_
  refine lx_step C (en := (584, .iload_n 3, 1, (0, 0, 0, 0), [])) rfl (F := (585, [(3, .int (nI i)), (2, .ref 542), (1, .ref 0), (0, .retAddr 2)], [.int (nI i), .retAddr 2, .int (xs (((nI i) + (Int32.ofInt 1))).toNatClampNeg), .ref 542], h1, n1, cs, ss)) rfl hcs hss ?_
  refine lx_step C (en := (585, .iconst 2, 1, (0, 0, 0, 0), [])) rfl (F := (586, [(3, .int (nI i)), (2, .ref 542), (1, .ref 0), (0, .retAddr 2)], [.int (Int32.ofInt 2), .int (nI i), .retAddr 2, .int (xs (((nI i) + (Int32.ofInt 1))).toNatClampNeg), .ref 542], h1, n1, cs, ss)) rfl hcs hss ?_
  refine lx_step C (en := (586, .iadd, 1, (0, 0, 0, 0), [])) rfl (F := (587, [(3, .int (nI i)), (2, .ref 542), (1, .ref 0), (0, .retAddr 2)], [.int ((nI i) + (Int32.ofInt 2)), .retAddr 2, .int (xs (((nI i) + (Int32.ofInt 1))).toNatClampNeg), .ref 542], h1, n1, cs, ss)) rfl hcs hss ?_
  refine lx_at C (by omega) (by omega) (lx_ok (meth := meth) (en := (587, .iaload, 1, (0, 0, 0, 0), [])) rfl).1 ?_
  obtain ⟨fs2, hr2⟩ := ht_m hI1.1
  refine lo_call C hI1 (pb_X11_board H hI1.1 (xs (((nI i) + (Int32.ofInt 1))).toNatClampNeg) (xs (((nI i) + (Int32.ofInt 2))).toNatClampNeg)) (by decide +kernel) rfl (lo_inv mi_X11_board rfl hr2 rfl) ⟨rfl, rfl⟩ (fun x2 h2 n2 hI2 => ?_)
  refine lx_step C (en := (591, .pop, 1, (0, 0, 0, 0), [])) rfl (F := (592, [(3, .int (nI i)), (2, .ref 542), (1, .ref 0), (0, .retAddr 2)], [], h2, n2, cs, ss)) rfl hcs hss ?_
  refine lx_step C (en := (592, .goto 581, 3, (0, 0, 0, 0), [])) rfl (F := (1173, [(3, .int (nI i)), (2, .ref 542), (1, .ref 0), (0, .retAddr 2)], [], h2, n2, cs, ss)) rfl hcs hss ?_
  exact kk h2 n2 cs ss hI2
theorem op_13 (C : lx_C G p s m meth c b L xs) (H : ab_Hand l G) (H2 : ab_Hand2 l G) (hi : i + 5 ≤ L) (hL : L ≤ 2560) (hI : lx_I h n cs ss) (kk : ∀ (h' : ax_H) (n' cs' ss' : Nat), lx_I h' n' cs' ss' → lx_W G p l e s m below meth c b (1173, [(3, .int (nI i)), (2, .ref 542), (1, .ref 0), (0, .retAddr 2)], [], h', n', cs', ss')) : lx_W G p l e s m below meth c b (595, [(3, .int (nI i)), (2, .ref 542), (1, .ref 0), (0, .retAddr 2)], [], h, n, cs, ss) := by
  obtain ⟨hcs, hss⟩ := lx_I_le hI
  have ix1 : (nI i + Int32.ofInt 1).toInt = (i : Int) + 1 := lo_ix hi hL 1 (by decide)
  have ix2 : (nI i + Int32.ofInt 2).toInt = (i : Int) + 2 := lo_ix hi hL 2 (by decide)
  have ix3 : (nI i + Int32.ofInt 3).toInt = (i : Int) + 3 := lo_ix hi hL 3 (by decide)
  have ix4 : (nI i + Int32.ofInt 4).toInt = (i : Int) + 4 := lo_ix hi hL 4 (by decide)
  refine lx_step C (en := (595, .aload_n 1, 1, (0, 0, 0, 0), [])) rfl (F := (596, [(3, .int (nI i)), (2, .ref 542), (1, .ref 0), (0, .retAddr 2)], [.ref 0], h, n, cs, ss)) rfl hcs hss ?_
  refine lx_step C (en := (596, .aload_n 0, 1, (0, 0, 0, 0), [])) rfl (F := (597, [(3, .int (nI i)), (2, .ref 542), (1, .ref 0), (0, .retAddr 2)], [.retAddr 2, .ref 0], h, n, cs, ss)) rfl hcs hss ?_
  refine lx_step C (en := (597, .iload_n 3, 1, (0, 0, 0, 0), [])) rfl (F := (598, [(3, .int (nI i)), (2, .ref 542), (1, .ref 0), (0, .retAddr 2)], [.int (nI i), .retAddr 2, .ref 0], h, n, cs, ss)) rfl hcs hss ?_
  refine lx_step C (en := (598, .iconst 1, 1, (0, 0, 0, 0), [])) rfl (F := (599, [(3, .int (nI i)), (2, .ref 542), (1, .ref 0), (0, .retAddr 2)], [.int (Int32.ofInt 1), .int (nI i), .retAddr 2, .ref 0], h, n, cs, ss)) rfl hcs hss ?_
  refine lx_step C (en := (599, .iadd, 1, (0, 0, 0, 0), [])) rfl (F := (600, [(3, .int (nI i)), (2, .ref 542), (1, .ref 0), (0, .retAddr 2)], [.int ((nI i) + (Int32.ofInt 1)), .retAddr 2, .ref 0], h, n, cs, ss)) rfl hcs hss ?_
  refine lx_at C (by omega) (by omega) (lx_ok (meth := meth) (en := (600, .iaload, 1, (0, 0, 0, 0), [])) rfl).1 ?_
  refine lx_step C (en := (601, .aload_n 0, 1, (0, 0, 0, 0), [])) rfl (F := (602, [(3, .int (nI i)), (2, .ref 542), (1, .ref 0), (0, .retAddr 2)], [.retAddr 2, .int (xs (((nI i) + (Int32.ofInt 1))).toNatClampNeg), .ref 0], h, n, cs, ss)) rfl hcs hss ?_
  refine lx_step C (en := (602, .iload_n 3, 1, (0, 0, 0, 0), [])) rfl (F := (603, [(3, .int (nI i)), (2, .ref 542), (1, .ref 0), (0, .retAddr 2)], [.int (nI i), .retAddr 2, .int (xs (((nI i) + (Int32.ofInt 1))).toNatClampNeg), .ref 0], h, n, cs, ss)) rfl hcs hss ?_
  refine lx_step C (en := (603, .iconst 2, 1, (0, 0, 0, 0), [])) rfl (F := (604, [(3, .int (nI i)), (2, .ref 542), (1, .ref 0), (0, .retAddr 2)], [.int (Int32.ofInt 2), .int (nI i), .retAddr 2, .int (xs (((nI i) + (Int32.ofInt 1))).toNatClampNeg), .ref 0], h, n, cs, ss)) rfl hcs hss ?_
  refine lx_step C (en := (604, .iadd, 1, (0, 0, 0, 0), [])) rfl (F := (605, [(3, .int (nI i)), (2, .ref 542), (1, .ref 0), (0, .retAddr 2)], [.int ((nI i) + (Int32.ofInt 2)), .retAddr 2, .int (xs (((nI i) + (Int32.ofInt 1))).toNatClampNeg), .ref 0], h, n, cs, ss)) rfl hcs hss ?_
  refine lx_at C (by omega) (by omega) (lx_ok (meth := meth) (en := (605, .iaload, 1, (0, 0, 0, 0), [])) rfl).1 ?_
  by_cases e0 : (xs (((nI i) + (Int32.ofInt 2))).toNatClampNeg) = 0
  · have f0 : ax_holds .eq ((xs (((nI i) + (Int32.ofInt 2))).toNatClampNeg)) 0 := e0
    refine lx_zt C rfl (tg := 613) rfl f0 hcs hss ?_
    refine lx_step C (en := (613, .iconst 0, 1, (0, 0, 0, 0), [])) rfl (F := (614, [(3, .int (nI i)), (2, .ref 542), (1, .ref 0), (0, .retAddr 2)], [.int (Int32.ofInt 0), .int (xs (((nI i) + (Int32.ofInt 1))).toNatClampNeg), .ref 0], h, n, cs, ss)) rfl hcs hss ?_
    obtain ⟨fs1, hr1⟩ := ht_x hI.1
    refine lo_call C hI (pb_X10_pour H hI.1 (xs (((nI i) + (Int32.ofInt 1))).toNatClampNeg) (Or.inl rfl)) (by decide +kernel) rfl (lo_inv mi_X10_pour rfl hr1 rfl) ⟨rfl, rfl⟩ (fun x1 h1 n1 hI1 => ?_)
    refine lx_step C (en := (617, .pop, 1, (0, 0, 0, 0), [])) rfl (F := (618, [(3, .int (nI i)), (2, .ref 542), (1, .ref 0), (0, .retAddr 2)], [], h1, n1, cs, ss)) rfl hcs hss ?_
    refine lx_step C (en := (618, .aload_n 2, 1, (0, 0, 0, 0), [])) rfl (F := (619, [(3, .int (nI i)), (2, .ref 542), (1, .ref 0), (0, .retAddr 2)], [.ref 542], h1, n1, cs, ss)) rfl hcs hss ?_
    refine lx_step C (en := (619, .aload_n 0, 1, (0, 0, 0, 0), [])) rfl (F := (620, [(3, .int (nI i)), (2, .ref 542), (1, .ref 0), (0, .retAddr 2)], [.retAddr 2, .ref 542], h1, n1, cs, ss)) rfl hcs hss ?_
    refine lx_step C (en := (620, .iload_n 3, 1, (0, 0, 0, 0), [])) rfl (F := (621, [(3, .int (nI i)), (2, .ref 542), (1, .ref 0), (0, .retAddr 2)], [.int (nI i), .retAddr 2, .ref 542], h1, n1, cs, ss)) rfl hcs hss ?_
    refine lx_step C (en := (621, .iconst 1, 1, (0, 0, 0, 0), [])) rfl (F := (622, [(3, .int (nI i)), (2, .ref 542), (1, .ref 0), (0, .retAddr 2)], [.int (Int32.ofInt 1), .int (nI i), .retAddr 2, .ref 542], h1, n1, cs, ss)) rfl hcs hss ?_
    refine lx_step C (en := (622, .iadd, 1, (0, 0, 0, 0), [])) rfl (F := (623, [(3, .int (nI i)), (2, .ref 542), (1, .ref 0), (0, .retAddr 2)], [.int ((nI i) + (Int32.ofInt 1)), .retAddr 2, .ref 542], h1, n1, cs, ss)) rfl hcs hss ?_
    refine lx_at C (by omega) (by omega) (lx_ok (meth := meth) (en := (623, .iaload, 1, (0, 0, 0, 0), [])) rfl).1 ?_
    refine lx_step C (en := (624, .aload_n 0, 1, (0, 0, 0, 0), [])) rfl (F := (625, [(3, .int (nI i)), (2, .ref 542), (1, .ref 0), (0, .retAddr 2)], [.retAddr 2, .int (xs (((nI i) + (Int32.ofInt 1))).toNatClampNeg), .ref 542], h1, n1, cs, ss)) rfl hcs hss ?_
    refine lx_step C (en := (625, .iload_n 3, 1, (0, 0, 0, 0), [])) rfl (F := (626, [(3, .int (nI i)), (2, .ref 542), (1, .ref 0), (0, .retAddr 2)], [.int (nI i), .retAddr 2, .int (xs (((nI i) + (Int32.ofInt 1))).toNatClampNeg), .ref 542], h1, n1, cs, ss)) rfl hcs hss ?_
    refine lx_step C (en := (626, .iconst 2, 1, (0, 0, 0, 0), [])) rfl (F := (627, [(3, .int (nI i)), (2, .ref 542), (1, .ref 0), (0, .retAddr 2)], [.int (Int32.ofInt 2), .int (nI i), .retAddr 2, .int (xs (((nI i) + (Int32.ofInt 1))).toNatClampNeg), .ref 542], h1, n1, cs, ss)) rfl hcs hss ?_
    refine lx_step C (en := (627, .iadd, 1, (0, 0, 0, 0), [])) rfl (F := (628, [(3, .int (nI i)), (2, .ref 542), (1, .ref 0), (0, .retAddr 2)], [.int ((nI i) + (Int32.ofInt 2)), .retAddr 2, .int (xs (((nI i) + (Int32.ofInt 1))).toNatClampNeg), .ref 542], h1, n1, cs, ss)) rfl hcs hss ?_
    refine lx_at C (by omega) (by omega) (lx_ok (meth := meth) (en := (628, .iaload, 1, (0, 0, 0, 0), [])) rfl).1 ?_
    by_cases e1 : (xs (((nI i) + (Int32.ofInt 2))).toNatClampNeg) = 0
    · have f1 : ax_holds .eq ((xs (((nI i) + (Int32.ofInt 2))).toNatClampNeg)) 0 := e1
      refine lx_zt C rfl (tg := 636) rfl f1 hcs hss ?_
      refine lx_step C (en := (636, .iconst 0, 1, (0, 0, 0, 0), [])) rfl (F := (637, [(3, .int (nI i)), (2, .ref 542), (1, .ref 0), (0, .retAddr 2)], [.int (Int32.ofInt 0), .int (xs (((nI i) + (Int32.ofInt 1))).toNatClampNeg), .ref 542], h1, n1, cs, ss)) rfl hcs hss ?_
      obtain ⟨fs2, hr2⟩ := ht_m hI1.1
      refine lo_call C hI1 ((H2 _ _ hI1.1).2.2.1 (xs (((nI i) + (Int32.ofInt 1))).toNatClampNeg) (Int32.ofInt 0) (Or.inl rfl)) (by decide +kernel) rfl (lo_inv mi_X11_pour rfl hr2 rfl) ⟨rfl, rfl⟩ (fun x2 h2 n2 hI2 => ?_)
      refine lx_step C (en := (640, .pop, 1, (0, 0, 0, 0), [])) rfl (F := (641, [(3, .int (nI i)), (2, .ref 542), (1, .ref 0), (0, .retAddr 2)], [], h2, n2, cs, ss)) rfl hcs hss ?_
      refine lx_step C (en := (641, .goto 532, 3, (0, 0, 0, 0), [])) rfl (F := (1173, [(3, .int (nI i)), (2, .ref 542), (1, .ref 0), (0, .retAddr 2)], [], h2, n2, cs, ss)) rfl hcs hss ?_
      exact kk h2 n2 cs ss hI2
    · have f1 : ¬ ax_holds .eq ((xs (((nI i) + (Int32.ofInt 2))).toNatClampNeg)) 0 := e1
      refine lx_zf C rfl (tg := 636) rfl f1 hcs hss ?_
      refine lx_step C (en := (632, .iconst 1, 1, (0, 0, 0, 0), [])) rfl (F := (633, [(3, .int (nI i)), (2, .ref 542), (1, .ref 0), (0, .retAddr 2)], [.int (Int32.ofInt 1), .int (xs (((nI i) + (Int32.ofInt 1))).toNatClampNeg), .ref 542], h1, n1, cs, ss)) rfl hcs hss ?_
      refine lx_step C (en := (633, .goto 4, 3, (0, 0, 0, 0), [])) rfl (F := (637, [(3, .int (nI i)), (2, .ref 542), (1, .ref 0), (0, .retAddr 2)], [.int (Int32.ofInt 1), .int (xs (((nI i) + (Int32.ofInt 1))).toNatClampNeg), .ref 542], h1, n1, cs, ss)) rfl hcs hss ?_
      obtain ⟨fs2, hr2⟩ := ht_m hI1.1
      refine lo_call C hI1 ((H2 _ _ hI1.1).2.2.1 (xs (((nI i) + (Int32.ofInt 1))).toNatClampNeg) (Int32.ofInt 1) (Or.inr rfl)) (by decide +kernel) rfl (lo_inv mi_X11_pour rfl hr2 rfl) ⟨rfl, rfl⟩ (fun x2 h2 n2 hI2 => ?_)
      refine lx_step C (en := (640, .pop, 1, (0, 0, 0, 0), [])) rfl (F := (641, [(3, .int (nI i)), (2, .ref 542), (1, .ref 0), (0, .retAddr 2)], [], h2, n2, cs, ss)) rfl hcs hss ?_
      refine lx_step C (en := (641, .goto 532, 3, (0, 0, 0, 0), [])) rfl (F := (1173, [(3, .int (nI i)), (2, .ref 542), (1, .ref 0), (0, .retAddr 2)], [], h2, n2, cs, ss)) rfl hcs hss ?_
      exact kk h2 n2 cs ss hI2
  · have f0 : ¬ ax_holds .eq ((xs (((nI i) + (Int32.ofInt 2))).toNatClampNeg)) 0 := e0
    refine lx_zf C rfl (tg := 613) rfl f0 hcs hss ?_
    refine lx_step C (en := (609, .iconst 1, 1, (0, 0, 0, 0), [])) rfl (F := (610, [(3, .int (nI i)), (2, .ref 542), (1, .ref 0), (0, .retAddr 2)], [.int (Int32.ofInt 1), .int (xs (((nI i) + (Int32.ofInt 1))).toNatClampNeg), .ref 0], h, n, cs, ss)) rfl hcs hss ?_
    refine lx_step C (en := (610, .goto 4, 3, (0, 0, 0, 0), [])) rfl (F := (614, [(3, .int (nI i)), (2, .ref 542), (1, .ref 0), (0, .retAddr 2)], [.int (Int32.ofInt 1), .int (xs (((nI i) + (Int32.ofInt 1))).toNatClampNeg), .ref 0], h, n, cs, ss)) rfl hcs hss ?_
    obtain ⟨fs1, hr1⟩ := ht_x hI.1
    refine lo_call C hI (pb_X10_pour H hI.1 (xs (((nI i) + (Int32.ofInt 1))).toNatClampNeg) (Or.inr rfl)) (by decide +kernel) rfl (lo_inv mi_X10_pour rfl hr1 rfl) ⟨rfl, rfl⟩ (fun x1 h1 n1 hI1 => ?_)
    refine lx_step C (en := (617, .pop, 1, (0, 0, 0, 0), [])) rfl (F := (618, [(3, .int (nI i)), (2, .ref 542), (1, .ref 0), (0, .retAddr 2)], [], h1, n1, cs, ss)) rfl hcs hss ?_
    refine lx_step C (en := (618, .aload_n 2, 1, (0, 0, 0, 0), [])) rfl (F := (619, [(3, .int (nI i)), (2, .ref 542), (1, .ref 0), (0, .retAddr 2)], [.ref 542], h1, n1, cs, ss)) rfl hcs hss ?_
    refine lx_step C (en := (619, .aload_n 0, 1, (0, 0, 0, 0), [])) rfl (F := (620, [(3, .int (nI i)), (2, .ref 542), (1, .ref 0), (0, .retAddr 2)], [.retAddr 2, .ref 542], h1, n1, cs, ss)) rfl hcs hss ?_
    refine lx_step C (en := (620, .iload_n 3, 1, (0, 0, 0, 0), [])) rfl (F := (621, [(3, .int (nI i)), (2, .ref 542), (1, .ref 0), (0, .retAddr 2)], [.int (nI i), .retAddr 2, .ref 542], h1, n1, cs, ss)) rfl hcs hss ?_
    refine lx_step C (en := (621, .iconst 1, 1, (0, 0, 0, 0), [])) rfl (F := (622, [(3, .int (nI i)), (2, .ref 542), (1, .ref 0), (0, .retAddr 2)], [.int (Int32.ofInt 1), .int (nI i), .retAddr 2, .ref 542], h1, n1, cs, ss)) rfl hcs hss ?_
    refine lx_step C (en := (622, .iadd, 1, (0, 0, 0, 0), [])) rfl (F := (623, [(3, .int (nI i)), (2, .ref 542), (1, .ref 0), (0, .retAddr 2)], [.int ((nI i) + (Int32.ofInt 1)), .retAddr 2, .ref 542], h1, n1, cs, ss)) rfl hcs hss ?_
    refine lx_at C (by omega) (by omega) (lx_ok (meth := meth) (en := (623, .iaload, 1, (0, 0, 0, 0), [])) rfl).1 ?_
    refine lx_step C (en := (624, .aload_n 0, 1, (0, 0, 0, 0), [])) rfl (F := (625, [(3, .int (nI i)), (2, .ref 542), (1, .ref 0), (0, .retAddr 2)], [.retAddr 2, .int (xs (((nI i) + (Int32.ofInt 1))).toNatClampNeg), .ref 542], h1, n1, cs, ss)) rfl hcs hss ?_
    refine lx_step C (en := (625, .iload_n 3, 1, (0, 0, 0, 0), [])) rfl (F := (626, [(3, .int (nI i)), (2, .ref 542), (1, .ref 0), (0, .retAddr 2)], [.int (nI i), .retAddr 2, .int (xs (((nI i) + (Int32.ofInt 1))).toNatClampNeg), .ref 542], h1, n1, cs, ss)) rfl hcs hss ?_
    refine lx_step C (en := (626, .iconst 2, 1, (0, 0, 0, 0), [])) rfl (F := (627, [(3, .int (nI i)), (2, .ref 542), (1, .ref 0), (0, .retAddr 2)], [.int (Int32.ofInt 2), .int (nI i), .retAddr 2, .int (xs (((nI i) + (Int32.ofInt 1))).toNatClampNeg), .ref 542], h1, n1, cs, ss)) rfl hcs hss ?_
    refine lx_step C (en := (627, .iadd, 1, (0, 0, 0, 0), [])) rfl (F := (628, [(3, .int (nI i)), (2, .ref 542), (1, .ref 0), (0, .retAddr 2)], [.int ((nI i) + (Int32.ofInt 2)), .retAddr 2, .int (xs (((nI i) + (Int32.ofInt 1))).toNatClampNeg), .ref 542], h1, n1, cs, ss)) rfl hcs hss ?_
    refine lx_at C (by omega) (by omega) (lx_ok (meth := meth) (en := (628, .iaload, 1, (0, 0, 0, 0), [])) rfl).1 ?_
    by_cases e1 : (xs (((nI i) + (Int32.ofInt 2))).toNatClampNeg) = 0
    · have f1 : ax_holds .eq ((xs (((nI i) + (Int32.ofInt 2))).toNatClampNeg)) 0 := e1
      refine lx_zt C rfl (tg := 636) rfl f1 hcs hss ?_
      refine lx_step C (en := (636, .iconst 0, 1, (0, 0, 0, 0), [])) rfl (F := (637, [(3, .int (nI i)), (2, .ref 542), (1, .ref 0), (0, .retAddr 2)], [.int (Int32.ofInt 0), .int (xs (((nI i) + (Int32.ofInt 1))).toNatClampNeg), .ref 542], h1, n1, cs, ss)) rfl hcs hss ?_
      obtain ⟨fs2, hr2⟩ := ht_m hI1.1
      refine lo_call C hI1 ((H2 _ _ hI1.1).2.2.1 (xs (((nI i) + (Int32.ofInt 1))).toNatClampNeg) (Int32.ofInt 0) (Or.inl rfl)) (by decide +kernel) rfl (lo_inv mi_X11_pour rfl hr2 rfl) ⟨rfl, rfl⟩ (fun x2 h2 n2 hI2 => ?_)
      refine lx_step C (en := (640, .pop, 1, (0, 0, 0, 0), [])) rfl (F := (641, [(3, .int (nI i)), (2, .ref 542), (1, .ref 0), (0, .retAddr 2)], [], h2, n2, cs, ss)) rfl hcs hss ?_
      refine lx_step C (en := (641, .goto 532, 3, (0, 0, 0, 0), [])) rfl (F := (1173, [(3, .int (nI i)), (2, .ref 542), (1, .ref 0), (0, .retAddr 2)], [], h2, n2, cs, ss)) rfl hcs hss ?_
      exact kk h2 n2 cs ss hI2
    · have f1 : ¬ ax_holds .eq ((xs (((nI i) + (Int32.ofInt 2))).toNatClampNeg)) 0 := e1
      refine lx_zf C rfl (tg := 636) rfl f1 hcs hss ?_
      refine lx_step C (en := (632, .iconst 1, 1, (0, 0, 0, 0), [])) rfl (F := (633, [(3, .int (nI i)), (2, .ref 542), (1, .ref 0), (0, .retAddr 2)], [.int (Int32.ofInt 1), .int (xs (((nI i) + (Int32.ofInt 1))).toNatClampNeg), .ref 542], h1, n1, cs, ss)) rfl hcs hss ?_
      refine lx_step C (en := (633, .goto 4, 3, (0, 0, 0, 0), [])) rfl (F := (637, [(3, .int (nI i)), (2, .ref 542), (1, .ref 0), (0, .retAddr 2)], [.int (Int32.ofInt 1), .int (xs (((nI i) + (Int32.ofInt 1))).toNatClampNeg), .ref 542], h1, n1, cs, ss)) rfl hcs hss ?_
      obtain ⟨fs2, hr2⟩ := ht_m hI1.1
      refine lo_call C hI1 ((H2 _ _ hI1.1).2.2.1 (xs (((nI i) + (Int32.ofInt 1))).toNatClampNeg) (Int32.ofInt 1) (Or.inr rfl)) (by decide +kernel) rfl (lo_inv mi_X11_pour rfl hr2 rfl) ⟨rfl, rfl⟩ (fun x2 h2 n2 hI2 => ?_)
      refine lx_step C (en := (640, .pop, 1, (0, 0, 0, 0), [])) rfl (F := (641, [(3, .int (nI i)), (2, .ref 542), (1, .ref 0), (0, .retAddr 2)], [], h2, n2, cs, ss)) rfl hcs hss ?_
      refine lx_step C (en := (641, .goto 532, 3, (0, 0, 0, 0), [])) rfl (F := (1173, [(3, .int (nI i)), (2, .ref 542), (1, .ref 0), (0, .retAddr 2)], [], h2, n2, cs, ss)) rfl hcs hss ?_
      exact kk h2 n2 cs ss hI2
end LO
