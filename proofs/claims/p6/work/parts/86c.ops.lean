section LO
variable {G : ax_T} {p : Program} {l : Launch} {e : Env} {s : State} {m : MethodId} {below : List Frame} {meth : Method} {c : Code} {b L : Nat} {xs : Nat → Int32}
variable {pc i : Nat} {lv : List (Nat × Value)} {st as rest : List Value} {h : ax_H} {n cs ss : Nat} {en : ax_EN} {mi : ax_MI}
theorem op_14 (C : lx_C G p s m meth c b L xs) (H : ab_Hand l G) (H2 : ab_Hand2 l G) (hi : i + 5 ≤ L) (hL : L ≤ 2560) (hI : lx_I h n cs ss) (kk : ∀ (h' : ax_H) (n' cs' ss' : Nat), lx_I h' n' cs' ss' → lx_W G p l e s m below meth c b (1173, [(3, .int (nI i)), (2, .ref 542), (1, .ref 0), (0, .retAddr 2)], [], h', n', cs', ss')) : lx_W G p l e s m below meth c b (644, [(3, .int (nI i)), (2, .ref 542), (1, .ref 0), (0, .retAddr 2)], [], h, n, cs, ss) := by
  obtain ⟨hcs, hss⟩ := lx_I_le hI
  have ix1 : (nI i + Int32.ofInt 1).toInt = (i : Int) + 1 := lo_ix hi hL 1 (by decide)
  have ix2 : (nI i + Int32.ofInt 2).toInt = (i : Int) + 2 := lo_ix hi hL 2 (by decide)
  have ix3 : (nI i + Int32.ofInt 3).toInt = (i : Int) + 3 := lo_ix hi hL 3 (by decide)
  have ix4 : (nI i + Int32.ofInt 4).toInt = (i : Int) + 4 := lo_ix hi hL 4 (by decide)
  refine lx_step C (en := (644, .aload_n 1, 1, (0, 0, 0, 0), [])) rfl (F := (645, [(3, .int (nI i)), (2, .ref 542), (1, .ref 0), (0, .retAddr 2)], [.ref 0], h, n, cs, ss)) rfl hcs hss ?_
  refine lx_step C (en := (645, .aload_n 0, 1, (0, 0, 0, 0), [])) rfl (F := (646, [(3, .int (nI i)), (2, .ref 542), (1, .ref 0), (0, .retAddr 2)], [.retAddr 2, .ref 0], h, n, cs, ss)) rfl hcs hss ?_
  refine lx_step C (en := (646, .iload_n 3, 1, (0, 0, 0, 0), [])) rfl (F := (647, [(3, .int (nI i)), (2, .ref 542), (1, .ref 0), (0, .retAddr 2)], [.int (nI i), .retAddr 2, .ref 0], h, n, cs, ss)) rfl hcs hss ?_
  refine lx_step C (en := (647, .iconst 1, 1, (0, 0, 0, 0), [])) rfl (F := (648, [(3, .int (nI i)), (2, .ref 542), (1, .ref 0), (0, .retAddr 2)], [.int (Int32.ofInt 1), .int (nI i), .retAddr 2, .ref 0], h, n, cs, ss)) rfl hcs hss ?_
  refine lx_step C (en := (648, .iadd, 1, (0, 0, 0, 0), [])) rfl (F := (649, [(3, .int (nI i)), (2, .ref 542), (1, .ref 0), (0, .retAddr 2)], [.int ((nI i) + (Int32.ofInt 1)), .retAddr 2, .ref 0], h, n, cs, ss)) rfl hcs hss ?_
  refine lx_at C (by omega) (by omega) (lx_ok (meth := meth) (en := (649, .iaload, 1, (0, 0, 0, 0), [])) rfl).1 ?_
  obtain ⟨fs1, hr1⟩ := ht_x hI.1
  refine lo_call C hI (pb_X10_bundle H hI.1 (xs (((nI i) + (Int32.ofInt 1))).toNatClampNeg)) (by decide +kernel) rfl (lo_inv mi_X10_bundle rfl hr1 rfl) ⟨rfl, rfl⟩ (fun x1 h1 n1 hI1 => ?_)
  refine lx_step C (en := (653, .pop, 1, (0, 0, 0, 0), [])) rfl (F := (654, [(3, .int (nI i)), (2, .ref 542), (1, .ref 0), (0, .retAddr 2)], [], h1, n1, cs, ss)) rfl hcs hss ?_
  refine lx_step C (en := (654, .aload_n 2, 1, (0, 0, 0, 0), [])) rfl (F := (655, [(3, .int (nI i)), (2, .ref 542), (1, .ref 0), (0, .retAddr 2)], [.ref 542], h1, n1, cs, ss)) rfl hcs hss ?_
  refine lx_step C (en := (655, .aload_n 0, 1, (0, 0, 0, 0), [])) rfl (F := (656, [(3, .int (nI i)), (2, .ref 542), (1, .ref 0), (0, .retAddr 2)], [.retAddr 2, .ref 542], h1, n1, cs, ss)) rfl hcs hss ?_
  refine lx_step C (en := (656, .iload_n 3, 1, (0, 0, 0, 0), [])) rfl (F := (657, [(3, .int (nI i)), (2, .ref 542), (1, .ref 0), (0, .retAddr 2)], [.int (nI i), .retAddr 2, .ref 542], h1, n1, cs, ss)) rfl hcs hss ?_
  refine lx_step C (en := (657, .iconst 1, 1, (0, 0, 0, 0), [])) rfl (F := (658, [(3, .int (nI i)), (2, .ref 542), (1, .ref 0), (0, .retAddr 2)], [.int (Int32.ofInt 1), .int (nI i), .retAddr 2, .ref 542], h1, n1, cs, ss)) rfl hcs hss ?_
  refine lx_step C (en := (658, .iadd, 1, (0, 0, 0, 0), [])) rfl (F := (659, [(3, .int (nI i)), (2, .ref 542), (1, .ref 0), (0, .retAddr 2)], [.int ((nI i) + (Int32.ofInt 1)), .retAddr 2, .ref 542], h1, n1, cs, ss)) rfl hcs hss ?_
  refine lx_at C (by omega) (by omega) (lx_ok (meth := meth) (en := (659, .iaload, 1, (0, 0, 0, 0), [])) rfl).1 ?_
  obtain ⟨fs2, hr2⟩ := ht_m hI1.1
  refine lo_call C hI1 (pb_X11_bundle H hI1.1 (xs (((nI i) + (Int32.ofInt 1))).toNatClampNeg)) (by decide +kernel) rfl (lo_inv mi_X11_bundle rfl hr2 rfl) ⟨rfl, rfl⟩ (fun x2 h2 n2 hI2 => ?_)
  refine lx_step C (en := (663, .pop, 1, (0, 0, 0, 0), [])) rfl (F := (664, [(3, .int (nI i)), (2, .ref 542), (1, .ref 0), (0, .retAddr 2)], [], h2, n2, cs, ss)) rfl hcs hss ?_
  refine lx_step C (en := (664, .goto 509, 3, (0, 0, 0, 0), [])) rfl (F := (1173, [(3, .int (nI i)), (2, .ref 542), (1, .ref 0), (0, .retAddr 2)], [], h2, n2, cs, ss)) rfl hcs hss ?_
  exact kk h2 n2 cs ss hI2
theorem op_15 (C : lx_C G p s m meth c b L xs) (H : ab_Hand l G) (H2 : ab_Hand2 l G) (hi : i + 5 ≤ L) (hL : L ≤ 2560) (hI : lx_I h n cs ss) (kk : ∀ (h' : ax_H) (n' cs' ss' : Nat), lx_I h' n' cs' ss' → lx_W G p l e s m below meth c b (1173, [(3, .int (nI i)), (2, .ref 542), (1, .ref 0), (0, .retAddr 2)], [], h', n', cs', ss')) : lx_W G p l e s m below meth c b (667, [(3, .int (nI i)), (2, .ref 542), (1, .ref 0), (0, .retAddr 2)], [], h, n, cs, ss) := by
  obtain ⟨hcs, hss⟩ := lx_I_le hI
  have ix1 : (nI i + Int32.ofInt 1).toInt = (i : Int) + 1 := lo_ix hi hL 1 (by decide)
  have ix2 : (nI i + Int32.ofInt 2).toInt = (i : Int) + 2 := lo_ix hi hL 2 (by decide)
  have ix3 : (nI i + Int32.ofInt 3).toInt = (i : Int) + 3 := lo_ix hi hL 3 (by decide)
  have ix4 : (nI i + Int32.ofInt 4).toInt = (i : Int) + 4 := lo_ix hi hL 4 (by decide)
  refine lx_step C (en := (667, .aload_n 1, 1, (0, 0, 0, 0), [])) rfl (F := (668, [(3, .int (nI i)), (2, .ref 542), (1, .ref 0), (0, .retAddr 2)], [.ref 0], h, n, cs, ss)) rfl hcs hss ?_
  refine lx_step C (en := (668, .aload_n 0, 1, (0, 0, 0, 0), [])) rfl (F := (669, [(3, .int (nI i)), (2, .ref 542), (1, .ref 0), (0, .retAddr 2)], [.retAddr 2, .ref 0], h, n, cs, ss)) rfl hcs hss ?_
  refine lx_step C (en := (669, .iload_n 3, 1, (0, 0, 0, 0), [])) rfl (F := (670, [(3, .int (nI i)), (2, .ref 542), (1, .ref 0), (0, .retAddr 2)], [.int (nI i), .retAddr 2, .ref 0], h, n, cs, ss)) rfl hcs hss ?_
  refine lx_step C (en := (670, .iconst 1, 1, (0, 0, 0, 0), [])) rfl (F := (671, [(3, .int (nI i)), (2, .ref 542), (1, .ref 0), (0, .retAddr 2)], [.int (Int32.ofInt 1), .int (nI i), .retAddr 2, .ref 0], h, n, cs, ss)) rfl hcs hss ?_
  refine lx_step C (en := (671, .iadd, 1, (0, 0, 0, 0), [])) rfl (F := (672, [(3, .int (nI i)), (2, .ref 542), (1, .ref 0), (0, .retAddr 2)], [.int ((nI i) + (Int32.ofInt 1)), .retAddr 2, .ref 0], h, n, cs, ss)) rfl hcs hss ?_
  refine lx_at C (by omega) (by omega) (lx_ok (meth := meth) (en := (672, .iaload, 1, (0, 0, 0, 0), [])) rfl).1 ?_
  obtain ⟨fs1, hr1⟩ := ht_x hI.1
  refine lo_call C hI (pb_X10_unbundle H hI.1 (xs (((nI i) + (Int32.ofInt 1))).toNatClampNeg)) (by decide +kernel) rfl (lo_inv mi_X10_unbundle rfl hr1 rfl) ⟨rfl, rfl⟩ (fun x1 h1 n1 hI1 => ?_)
  refine lx_step C (en := (676, .pop, 1, (0, 0, 0, 0), [])) rfl (F := (677, [(3, .int (nI i)), (2, .ref 542), (1, .ref 0), (0, .retAddr 2)], [], h1, n1, cs, ss)) rfl hcs hss ?_
  refine lx_step C (en := (677, .aload_n 2, 1, (0, 0, 0, 0), [])) rfl (F := (678, [(3, .int (nI i)), (2, .ref 542), (1, .ref 0), (0, .retAddr 2)], [.ref 542], h1, n1, cs, ss)) rfl hcs hss ?_
  refine lx_step C (en := (678, .aload_n 0, 1, (0, 0, 0, 0), [])) rfl (F := (679, [(3, .int (nI i)), (2, .ref 542), (1, .ref 0), (0, .retAddr 2)], [.retAddr 2, .ref 542], h1, n1, cs, ss)) rfl hcs hss ?_
  refine lx_step C (en := (679, .iload_n 3, 1, (0, 0, 0, 0), [])) rfl (F := (680, [(3, .int (nI i)), (2, .ref 542), (1, .ref 0), (0, .retAddr 2)], [.int (nI i), .retAddr 2, .ref 542], h1, n1, cs, ss)) rfl hcs hss ?_
  refine lx_step C (en := (680, .iconst 1, 1, (0, 0, 0, 0), [])) rfl (F := (681, [(3, .int (nI i)), (2, .ref 542), (1, .ref 0), (0, .retAddr 2)], [.int (Int32.ofInt 1), .int (nI i), .retAddr 2, .ref 542], h1, n1, cs, ss)) rfl hcs hss ?_
  refine lx_step C (en := (681, .iadd, 1, (0, 0, 0, 0), [])) rfl (F := (682, [(3, .int (nI i)), (2, .ref 542), (1, .ref 0), (0, .retAddr 2)], [.int ((nI i) + (Int32.ofInt 1)), .retAddr 2, .ref 542], h1, n1, cs, ss)) rfl hcs hss ?_
  refine lx_at C (by omega) (by omega) (lx_ok (meth := meth) (en := (682, .iaload, 1, (0, 0, 0, 0), [])) rfl).1 ?_
  obtain ⟨fs2, hr2⟩ := ht_m hI1.1
  refine lo_call C hI1 (pb_X11_unbundle H hI1.1 (xs (((nI i) + (Int32.ofInt 1))).toNatClampNeg)) (by decide +kernel) rfl (lo_inv mi_X11_unbundle rfl hr2 rfl) ⟨rfl, rfl⟩ (fun x2 h2 n2 hI2 => ?_)
  refine lx_step C (en := (686, .pop, 1, (0, 0, 0, 0), [])) rfl (F := (687, [(3, .int (nI i)), (2, .ref 542), (1, .ref 0), (0, .retAddr 2)], [], h2, n2, cs, ss)) rfl hcs hss ?_
  refine lx_step C (en := (687, .goto 486, 3, (0, 0, 0, 0), [])) rfl (F := (1173, [(3, .int (nI i)), (2, .ref 542), (1, .ref 0), (0, .retAddr 2)], [], h2, n2, cs, ss)) rfl hcs hss ?_
  exact kk h2 n2 cs ss hI2
theorem op_16 (C : lx_C G p s m meth c b L xs) (H : ab_Hand l G) (H2 : ab_Hand2 l G) (hi : i + 5 ≤ L) (hL : L ≤ 2560) (hI : lx_I h n cs ss) (kk : ∀ (h' : ax_H) (n' cs' ss' : Nat), lx_I h' n' cs' ss' → lx_W G p l e s m below meth c b (1173, [(3, .int (nI i)), (2, .ref 542), (1, .ref 0), (0, .retAddr 2)], [], h', n', cs', ss')) : lx_W G p l e s m below meth c b (690, [(3, .int (nI i)), (2, .ref 542), (1, .ref 0), (0, .retAddr 2)], [], h, n, cs, ss) := by
  obtain ⟨hcs, hss⟩ := lx_I_le hI
  have ix1 : (nI i + Int32.ofInt 1).toInt = (i : Int) + 1 := lo_ix hi hL 1 (by decide)
  have ix2 : (nI i + Int32.ofInt 2).toInt = (i : Int) + 2 := lo_ix hi hL 2 (by decide)
  have ix3 : (nI i + Int32.ofInt 3).toInt = (i : Int) + 3 := lo_ix hi hL 3 (by decide)
  have ix4 : (nI i + Int32.ofInt 4).toInt = (i : Int) + 4 := lo_ix hi hL 4 (by decide)
  refine lx_step C (en := (690, .aload_n 1, 1, (0, 0, 0, 0), [])) rfl (F := (691, [(3, .int (nI i)), (2, .ref 542), (1, .ref 0), (0, .retAddr 2)], [.ref 0], h, n, cs, ss)) rfl hcs hss ?_
  obtain ⟨fs1, hr1⟩ := ht_x hI.1
  refine lo_call C hI (pb_X10_settle H hI.1 ) (by decide +kernel) rfl (lo_inv mi_X10_settle rfl hr1 rfl) ⟨rfl, rfl⟩ (fun x1 h1 n1 hI1 => ?_)
  refine lx_step C (en := (694, .pop, 1, (0, 0, 0, 0), [])) rfl (F := (695, [(3, .int (nI i)), (2, .ref 542), (1, .ref 0), (0, .retAddr 2)], [], h1, n1, cs, ss)) rfl hcs hss ?_
  refine lx_step C (en := (695, .aload_n 2, 1, (0, 0, 0, 0), [])) rfl (F := (696, [(3, .int (nI i)), (2, .ref 542), (1, .ref 0), (0, .retAddr 2)], [.ref 542], h1, n1, cs, ss)) rfl hcs hss ?_
  obtain ⟨fs2, hr2⟩ := ht_m hI1.1
  refine lo_call C hI1 (pb_X11_settle H hI1.1 ) (by decide +kernel) rfl (lo_inv mi_X11_settle rfl hr2 rfl) ⟨rfl, rfl⟩ (fun x2 h2 n2 hI2 => ?_)
  refine lx_step C (en := (699, .pop, 1, (0, 0, 0, 0), [])) rfl (F := (700, [(3, .int (nI i)), (2, .ref 542), (1, .ref 0), (0, .retAddr 2)], [], h2, n2, cs, ss)) rfl hcs hss ?_
  refine lx_step C (en := (700, .goto 473, 3, (0, 0, 0, 0), [])) rfl (F := (1173, [(3, .int (nI i)), (2, .ref 542), (1, .ref 0), (0, .retAddr 2)], [], h2, n2, cs, ss)) rfl hcs hss ?_
  exact kk h2 n2 cs ss hI2
theorem op_17 (C : lx_C G p s m meth c b L xs) (H : ab_Hand l G) (H2 : ab_Hand2 l G) (hi : i + 5 ≤ L) (hL : L ≤ 2560) (hI : lx_I h n cs ss) (kk : ∀ (h' : ax_H) (n' cs' ss' : Nat), lx_I h' n' cs' ss' → lx_W G p l e s m below meth c b (1173, [(3, .int (nI i)), (2, .ref 542), (1, .ref 0), (0, .retAddr 2)], [], h', n', cs', ss')) : lx_W G p l e s m below meth c b (703, [(3, .int (nI i)), (2, .ref 542), (1, .ref 0), (0, .retAddr 2)], [], h, n, cs, ss) := by
  obtain ⟨hcs, hss⟩ := lx_I_le hI
  have ix1 : (nI i + Int32.ofInt 1).toInt = (i : Int) + 1 := lo_ix hi hL 1 (by decide)
  have ix2 : (nI i + Int32.ofInt 2).toInt = (i : Int) + 2 := lo_ix hi hL 2 (by decide)
  have ix3 : (nI i + Int32.ofInt 3).toInt = (i : Int) + 3 := lo_ix hi hL 3 (by decide)
  have ix4 : (nI i + Int32.ofInt 4).toInt = (i : Int) + 4 := lo_ix hi hL 4 (by decide)
  refine lx_step C (en := (703, .aload_n 1, 1, (0, 0, 0, 0), [])) rfl (F := (704, [(3, .int (nI i)), (2, .ref 542), (1, .ref 0), (0, .retAddr 2)], [.ref 0], h, n, cs, ss)) rfl hcs hss ?_
  refine lx_step C (en := (704, .aload_n 0, 1, (0, 0, 0, 0), [])) rfl (F := (705, [(3, .int (nI i)), (2, .ref 542), (1, .ref 0), (0, .retAddr 2)], [.retAddr 2, .ref 0], h, n, cs, ss)) rfl hcs hss ?_
  refine lx_step C (en := (705, .iload_n 3, 1, (0, 0, 0, 0), [])) rfl (F := (706, [(3, .int (nI i)), (2, .ref 542), (1, .ref 0), (0, .retAddr 2)], [.int (nI i), .retAddr 2, .ref 0], h, n, cs, ss)) rfl hcs hss ?_
  refine lx_step C (en := (706, .iconst 1, 1, (0, 0, 0, 0), [])) rfl (F := (707, [(3, .int (nI i)), (2, .ref 542), (1, .ref 0), (0, .retAddr 2)], [.int (Int32.ofInt 1), .int (nI i), .retAddr 2, .ref 0], h, n, cs, ss)) rfl hcs hss ?_
  refine lx_step C (en := (707, .iadd, 1, (0, 0, 0, 0), [])) rfl (F := (708, [(3, .int (nI i)), (2, .ref 542), (1, .ref 0), (0, .retAddr 2)], [.int ((nI i) + (Int32.ofInt 1)), .retAddr 2, .ref 0], h, n, cs, ss)) rfl hcs hss ?_
  refine lx_at C (by omega) (by omega) (lx_ok (meth := meth) (en := (708, .iaload, 1, (0, 0, 0, 0), [])) rfl).1 ?_
  obtain ⟨fs1, hr1⟩ := ht_x hI.1
  refine lo_call C hI (pb_X10_step H hI.1 (xs (((nI i) + (Int32.ofInt 1))).toNatClampNeg)) (by decide +kernel) rfl (lo_inv mi_X10_step rfl hr1 rfl) ⟨rfl, rfl⟩ (fun x1 h1 n1 hI1 => ?_)
  refine lx_step C (en := (712, .pop, 1, (0, 0, 0, 0), [])) rfl (F := (713, [(3, .int (nI i)), (2, .ref 542), (1, .ref 0), (0, .retAddr 2)], [], h1, n1, cs, ss)) rfl hcs hss ?_
  refine lx_step C (en := (713, .aload_n 2, 1, (0, 0, 0, 0), [])) rfl (F := (714, [(3, .int (nI i)), (2, .ref 542), (1, .ref 0), (0, .retAddr 2)], [.ref 542], h1, n1, cs, ss)) rfl hcs hss ?_
  refine lx_step C (en := (714, .aload_n 0, 1, (0, 0, 0, 0), [])) rfl (F := (715, [(3, .int (nI i)), (2, .ref 542), (1, .ref 0), (0, .retAddr 2)], [.retAddr 2, .ref 542], h1, n1, cs, ss)) rfl hcs hss ?_
  refine lx_step C (en := (715, .iload_n 3, 1, (0, 0, 0, 0), [])) rfl (F := (716, [(3, .int (nI i)), (2, .ref 542), (1, .ref 0), (0, .retAddr 2)], [.int (nI i), .retAddr 2, .ref 542], h1, n1, cs, ss)) rfl hcs hss ?_
  refine lx_step C (en := (716, .iconst 1, 1, (0, 0, 0, 0), [])) rfl (F := (717, [(3, .int (nI i)), (2, .ref 542), (1, .ref 0), (0, .retAddr 2)], [.int (Int32.ofInt 1), .int (nI i), .retAddr 2, .ref 542], h1, n1, cs, ss)) rfl hcs hss ?_
  refine lx_step C (en := (717, .iadd, 1, (0, 0, 0, 0), [])) rfl (F := (718, [(3, .int (nI i)), (2, .ref 542), (1, .ref 0), (0, .retAddr 2)], [.int ((nI i) + (Int32.ofInt 1)), .retAddr 2, .ref 542], h1, n1, cs, ss)) rfl hcs hss ?_
  refine lx_at C (by omega) (by omega) (lx_ok (meth := meth) (en := (718, .iaload, 1, (0, 0, 0, 0), [])) rfl).1 ?_
  obtain ⟨fs2, hr2⟩ := ht_m hI1.1
  refine lo_call C hI1 (pb_X11_step H hI1.1 (xs (((nI i) + (Int32.ofInt 1))).toNatClampNeg)) (by decide +kernel) rfl (lo_inv mi_X11_step rfl hr2 rfl) ⟨rfl, rfl⟩ (fun x2 h2 n2 hI2 => ?_)
  refine lx_step C (en := (722, .pop, 1, (0, 0, 0, 0), [])) rfl (F := (723, [(3, .int (nI i)), (2, .ref 542), (1, .ref 0), (0, .retAddr 2)], [], h2, n2, cs, ss)) rfl hcs hss ?_
  refine lx_step C (en := (723, .goto 450, 3, (0, 0, 0, 0), [])) rfl (F := (1173, [(3, .int (nI i)), (2, .ref 542), (1, .ref 0), (0, .retAddr 2)], [], h2, n2, cs, ss)) rfl hcs hss ?_
  exact kk h2 n2 cs ss hI2
theorem op_18 (C : lx_C G p s m meth c b L xs) (H : ab_Hand l G) (H2 : ab_Hand2 l G) (hi : i + 5 ≤ L) (hL : L ≤ 2560) (hI : lx_I h n cs ss) (kk : ∀ (h' : ax_H) (n' cs' ss' : Nat), lx_I h' n' cs' ss' → lx_W G p l e s m below meth c b (1173, [(3, .int (nI i)), (2, .ref 542), (1, .ref 0), (0, .retAddr 2)], [], h', n', cs', ss')) : lx_W G p l e s m below meth c b (726, [(3, .int (nI i)), (2, .ref 542), (1, .ref 0), (0, .retAddr 2)], [], h, n, cs, ss) := by
  obtain ⟨hcs, hss⟩ := lx_I_le hI
  have ix1 : (nI i + Int32.ofInt 1).toInt = (i : Int) + 1 := lo_ix hi hL 1 (by decide)
  have ix2 : (nI i + Int32.ofInt 2).toInt = (i : Int) + 2 := lo_ix hi hL 2 (by decide)
  have ix3 : (nI i + Int32.ofInt 3).toInt = (i : Int) + 3 := lo_ix hi hL 3 (by decide)
  have ix4 : (nI i + Int32.ofInt 4).toInt = (i : Int) + 4 := lo_ix hi hL 4 (by decide)
  refine lx_step C (en := (726, .aload_n 1, 1, (0, 0, 0, 0), [])) rfl (F := (727, [(3, .int (nI i)), (2, .ref 542), (1, .ref 0), (0, .retAddr 2)], [.ref 0], h, n, cs, ss)) rfl hcs hss ?_
  obtain ⟨fs1, hr1⟩ := ht_x hI.1
  refine lo_call C hI (pb_X10_holds H hI.1 ) (by decide +kernel) rfl (lo_inv mi_X10_holds rfl hr1 rfl) ⟨rfl, rfl⟩ (fun x1 h1 n1 hI1 => ?_)
  refine lx_step C (en := (730, .pop, 1, (0, 0, 0, 0), [])) rfl (F := (731, [(3, .int (nI i)), (2, .ref 542), (1, .ref 0), (0, .retAddr 2)], [], h1, n1, cs, ss)) rfl hcs hss ?_
  refine lx_step C (en := (731, .aload_n 2, 1, (0, 0, 0, 0), [])) rfl (F := (732, [(3, .int (nI i)), (2, .ref 542), (1, .ref 0), (0, .retAddr 2)], [.ref 542], h1, n1, cs, ss)) rfl hcs hss ?_
  obtain ⟨fs2, hr2⟩ := ht_m hI1.1
  refine lo_call C hI1 (pb_X11_holds H hI1.1 ) (by decide +kernel) rfl (lo_inv mi_X11_holds rfl hr2 rfl) ⟨rfl, rfl⟩ (fun x2 h2 n2 hI2 => ?_)
  refine lx_step C (en := (735, .pop, 1, (0, 0, 0, 0), [])) rfl (F := (736, [(3, .int (nI i)), (2, .ref 542), (1, .ref 0), (0, .retAddr 2)], [], h2, n2, cs, ss)) rfl hcs hss ?_
  refine lx_step C (en := (736, .goto 437, 3, (0, 0, 0, 0), [])) rfl (F := (1173, [(3, .int (nI i)), (2, .ref 542), (1, .ref 0), (0, .retAddr 2)], [], h2, n2, cs, ss)) rfl hcs hss ?_
  exact kk h2 n2 cs ss hI2
theorem op_19 (C : lx_C G p s m meth c b L xs) (H : ab_Hand l G) (H2 : ab_Hand2 l G) (hi : i + 5 ≤ L) (hL : L ≤ 2560) (hI : lx_I h n cs ss) (kk : ∀ (h' : ax_H) (n' cs' ss' : Nat), lx_I h' n' cs' ss' → lx_W G p l e s m below meth c b (1173, [(3, .int (nI i)), (2, .ref 542), (1, .ref 0), (0, .retAddr 2)], [], h', n', cs', ss')) : lx_W G p l e s m below meth c b (739, [(3, .int (nI i)), (2, .ref 542), (1, .ref 0), (0, .retAddr 2)], [], h, n, cs, ss) := by
  obtain ⟨hcs, hss⟩ := lx_I_le hI
  have ix1 : (nI i + Int32.ofInt 1).toInt = (i : Int) + 1 := lo_ix hi hL 1 (by decide)
  have ix2 : (nI i + Int32.ofInt 2).toInt = (i : Int) + 2 := lo_ix hi hL 2 (by decide)
  have ix3 : (nI i + Int32.ofInt 3).toInt = (i : Int) + 3 := lo_ix hi hL 3 (by decide)
  have ix4 : (nI i + Int32.ofInt 4).toInt = (i : Int) + 4 := lo_ix hi hL 4 (by decide)
  refine lx_step C (en := (739, .aload_n 1, 1, (0, 0, 0, 0), [])) rfl (F := (740, [(3, .int (nI i)), (2, .ref 542), (1, .ref 0), (0, .retAddr 2)], [.ref 0], h, n, cs, ss)) rfl hcs hss ?_
  refine lx_step C (en := (740, .aload_n 0, 1, (0, 0, 0, 0), [])) rfl (F := (741, [(3, .int (nI i)), (2, .ref 542), (1, .ref 0), (0, .retAddr 2)], [.retAddr 2, .ref 0], h, n, cs, ss)) rfl hcs hss ?_
  refine lx_step C (en := (741, .iload_n 3, 1, (0, 0, 0, 0), [])) rfl (F := (742, [(3, .int (nI i)), (2, .ref 542), (1, .ref 0), (0, .retAddr 2)], [.int (nI i), .retAddr 2, .ref 0], h, n, cs, ss)) rfl hcs hss ?_
  refine lx_step C (en := (742, .iconst 1, 1, (0, 0, 0, 0), [])) rfl (F := (743, [(3, .int (nI i)), (2, .ref 542), (1, .ref 0), (0, .retAddr 2)], [.int (Int32.ofInt 1), .int (nI i), .retAddr 2, .ref 0], h, n, cs, ss)) rfl hcs hss ?_
  refine lx_step C (en := (743, .iadd, 1, (0, 0, 0, 0), [])) rfl (F := (744, [(3, .int (nI i)), (2, .ref 542), (1, .ref 0), (0, .retAddr 2)], [.int ((nI i) + (Int32.ofInt 1)), .retAddr 2, .ref 0], h, n, cs, ss)) rfl hcs hss ?_
  refine lx_at C (by omega) (by omega) (lx_ok (meth := meth) (en := (744, .iaload, 1, (0, 0, 0, 0), [])) rfl).1 ?_
  obtain ⟨fs1, hr1⟩ := ht_x hI.1
  refine lo_call C hI (pb_X10_lift H hI.1 (xs (((nI i) + (Int32.ofInt 1))).toNatClampNeg)) (by decide +kernel) rfl (lo_inv mi_X10_lift rfl hr1 rfl) ⟨rfl, rfl⟩ (fun x1 h1 n1 hI1 => ?_)
  refine lx_step C (en := (748, .pop, 1, (0, 0, 0, 0), [])) rfl (F := (749, [(3, .int (nI i)), (2, .ref 542), (1, .ref 0), (0, .retAddr 2)], [], h1, n1, cs, ss)) rfl hcs hss ?_
  refine lx_step C (en := (749, .aload_n 2, 1, (0, 0, 0, 0), [])) rfl (F := (750, [(3, .int (nI i)), (2, .ref 542), (1, .ref 0), (0, .retAddr 2)], [.ref 542], h1, n1, cs, ss)) rfl hcs hss ?_
  refine lx_step C (en := (750, .aload_n 0, 1, (0, 0, 0, 0), [])) rfl (F := (751, [(3, .int (nI i)), (2, .ref 542), (1, .ref 0), (0, .retAddr 2)], [.retAddr 2, .ref 542], h1, n1, cs, ss)) rfl hcs hss ?_
  refine lx_step C (en := (751, .iload_n 3, 1, (0, 0, 0, 0), [])) rfl (F := (752, [(3, .int (nI i)), (2, .ref 542), (1, .ref 0), (0, .retAddr 2)], [.int (nI i), .retAddr 2, .ref 542], h1, n1, cs, ss)) rfl hcs hss ?_
  refine lx_step C (en := (752, .iconst 1, 1, (0, 0, 0, 0), [])) rfl (F := (753, [(3, .int (nI i)), (2, .ref 542), (1, .ref 0), (0, .retAddr 2)], [.int (Int32.ofInt 1), .int (nI i), .retAddr 2, .ref 542], h1, n1, cs, ss)) rfl hcs hss ?_
  refine lx_step C (en := (753, .iadd, 1, (0, 0, 0, 0), [])) rfl (F := (754, [(3, .int (nI i)), (2, .ref 542), (1, .ref 0), (0, .retAddr 2)], [.int ((nI i) + (Int32.ofInt 1)), .retAddr 2, .ref 542], h1, n1, cs, ss)) rfl hcs hss ?_
  refine lx_at C (by omega) (by omega) (lx_ok (meth := meth) (en := (754, .iaload, 1, (0, 0, 0, 0), [])) rfl).1 ?_
  obtain ⟨fs2, hr2⟩ := ht_m hI1.1
  refine lo_call C hI1 ((H2 _ _ hI1.1).2.2.2 (xs (((nI i) + (Int32.ofInt 1))).toNatClampNeg)) (by decide +kernel) rfl (lo_inv mi_X11_lift rfl hr2 rfl) ⟨rfl, rfl⟩ (fun x2 h2 n2 hI2 => ?_)
  refine lx_step C (en := (758, .pop, 1, (0, 0, 0, 0), [])) rfl (F := (759, [(3, .int (nI i)), (2, .ref 542), (1, .ref 0), (0, .retAddr 2)], [], h2, n2, cs, ss)) rfl hcs hss ?_
  refine lx_step C (en := (759, .goto 414, 3, (0, 0, 0, 0), [])) rfl (F := (1173, [(3, .int (nI i)), (2, .ref 542), (1, .ref 0), (0, .retAddr 2)], [], h2, n2, cs, ss)) rfl hcs hss ?_
  exact kk h2 n2 cs ss hI2
theorem op_20 (C : lx_C G p s m meth c b L xs) (H : ab_Hand l G) (H2 : ab_Hand2 l G) (hi : i + 5 ≤ L) (hL : L ≤ 2560) (hI : lx_I h n cs ss) (kk : ∀ (h' : ax_H) (n' cs' ss' : Nat), lx_I h' n' cs' ss' → lx_W G p l e s m below meth c b (1173, [(3, .int (nI i)), (2, .ref 542), (1, .ref 0), (0, .retAddr 2)], [], h', n', cs', ss')) : lx_W G p l e s m below meth c b (762, [(3, .int (nI i)), (2, .ref 542), (1, .ref 0), (0, .retAddr 2)], [], h, n, cs, ss) := by
  obtain ⟨hcs, hss⟩ := lx_I_le hI
  have ix1 : (nI i + Int32.ofInt 1).toInt = (i : Int) + 1 := lo_ix hi hL 1 (by decide)
  have ix2 : (nI i + Int32.ofInt 2).toInt = (i : Int) + 2 := lo_ix hi hL 2 (by decide)
  have ix3 : (nI i + Int32.ofInt 3).toInt = (i : Int) + 3 := lo_ix hi hL 3 (by decide)
  have ix4 : (nI i + Int32.ofInt 4).toInt = (i : Int) + 4 := lo_ix hi hL 4 (by decide)
  refine lx_step C (en := (762, .aload_n 1, 1, (0, 0, 0, 0), [])) rfl (F := (763, [(3, .int (nI i)), (2, .ref 542), (1, .ref 0), (0, .retAddr 2)], [.ref 0], h, n, cs, ss)) rfl hcs hss ?_
  obtain ⟨fs1, hr1⟩ := ht_x hI.1
  refine lo_call C hI (pb_X10_sweep H hI.1 ) (by decide +kernel) rfl (lo_inv mi_X10_sweep rfl hr1 rfl) ⟨rfl, rfl⟩ (fun x1 h1 n1 hI1 => ?_)
  refine lx_step C (en := (766, .pop, 1, (0, 0, 0, 0), [])) rfl (F := (767, [(3, .int (nI i)), (2, .ref 542), (1, .ref 0), (0, .retAddr 2)], [], h1, n1, cs, ss)) rfl hcs hss ?_
  refine lx_step C (en := (767, .aload_n 2, 1, (0, 0, 0, 0), [])) rfl (F := (768, [(3, .int (nI i)), (2, .ref 542), (1, .ref 0), (0, .retAddr 2)], [.ref 542], h1, n1, cs, ss)) rfl hcs hss ?_
  obtain ⟨fs2, hr2⟩ := ht_m hI1.1
  refine lo_call C hI1 (pb_X11_sweep H hI1.1 ) (by decide +kernel) rfl (lo_inv mi_X11_sweep rfl hr2 rfl) ⟨rfl, rfl⟩ (fun x2 h2 n2 hI2 => ?_)
  refine lx_step C (en := (771, .pop, 1, (0, 0, 0, 0), [])) rfl (F := (772, [(3, .int (nI i)), (2, .ref 542), (1, .ref 0), (0, .retAddr 2)], [], h2, n2, cs, ss)) rfl hcs hss ?_
  refine lx_step C (en := (772, .goto 401, 3, (0, 0, 0, 0), [])) rfl (F := (1173, [(3, .int (nI i)), (2, .ref 542), (1, .ref 0), (0, .retAddr 2)], [], h2, n2, cs, ss)) rfl hcs hss ?_
  exact kk h2 n2 cs ss hI2
theorem op_21 (C : lx_C G p s m meth c b L xs) (H : ab_Hand l G) (H2 : ab_Hand2 l G) (hi : i + 5 ≤ L) (hL : L ≤ 2560) (hI : lx_I h n cs ss) (kk : ∀ (h' : ax_H) (n' cs' ss' : Nat), lx_I h' n' cs' ss' → lx_W G p l e s m below meth c b (1173, [(3, .int (nI i)), (2, .ref 542), (1, .ref 0), (0, .retAddr 2)], [], h', n', cs', ss')) : lx_W G p l e s m below meth c b (775, [(3, .int (nI i)), (2, .ref 542), (1, .ref 0), (0, .retAddr 2)], [], h, n, cs, ss) := by
  obtain ⟨hcs, hss⟩ := lx_I_le hI
  have ix1 : (nI i + Int32.ofInt 1).toInt = (i : Int) + 1 := lo_ix hi hL 1 (by decide)
  have ix2 : (nI i + Int32.ofInt 2).toInt = (i : Int) + 2 := lo_ix hi hL 2 (by decide)
  have ix3 : (nI i + Int32.ofInt 3).toInt = (i : Int) + 3 := lo_ix hi hL 3 (by decide)
  have ix4 : (nI i + Int32.ofInt 4).toInt = (i : Int) + 4 := lo_ix hi hL 4 (by decide)
  refine lx_step C (en := (775, .aload_n 1, 1, (0, 0, 0, 0), [])) rfl (F := (776, [(3, .int (nI i)), (2, .ref 542), (1, .ref 0), (0, .retAddr 2)], [.ref 0], h, n, cs, ss)) rfl hcs hss ?_
  refine lx_step C (en := (776, .aload_n 0, 1, (0, 0, 0, 0), [])) rfl (F := (777, [(3, .int (nI i)), (2, .ref 542), (1, .ref 0), (0, .retAddr 2)], [.retAddr 2, .ref 0], h, n, cs, ss)) rfl hcs hss ?_
  refine lx_step C (en := (777, .iload_n 3, 1, (0, 0, 0, 0), [])) rfl (F := (778, [(3, .int (nI i)), (2, .ref 542), (1, .ref 0), (0, .retAddr 2)], [.int (nI i), .retAddr 2, .ref 0], h, n, cs, ss)) rfl hcs hss ?_
  refine lx_step C (en := (778, .iconst 1, 1, (0, 0, 0, 0), [])) rfl (F := (779, [(3, .int (nI i)), (2, .ref 542), (1, .ref 0), (0, .retAddr 2)], [.int (Int32.ofInt 1), .int (nI i), .retAddr 2, .ref 0], h, n, cs, ss)) rfl hcs hss ?_
  refine lx_step C (en := (779, .iadd, 1, (0, 0, 0, 0), [])) rfl (F := (780, [(3, .int (nI i)), (2, .ref 542), (1, .ref 0), (0, .retAddr 2)], [.int ((nI i) + (Int32.ofInt 1)), .retAddr 2, .ref 0], h, n, cs, ss)) rfl hcs hss ?_
  refine lx_at C (by omega) (by omega) (lx_ok (meth := meth) (en := (780, .iaload, 1, (0, 0, 0, 0), [])) rfl).1 ?_
  refine lx_step C (en := (781, .aload_n 0, 1, (0, 0, 0, 0), [])) rfl (F := (782, [(3, .int (nI i)), (2, .ref 542), (1, .ref 0), (0, .retAddr 2)], [.retAddr 2, .int (xs (((nI i) + (Int32.ofInt 1))).toNatClampNeg), .ref 0], h, n, cs, ss)) rfl hcs hss ?_
  refine lx_step C (en := (782, .iload_n 3, 1, (0, 0, 0, 0), [])) rfl (F := (783, [(3, .int (nI i)), (2, .ref 542), (1, .ref 0), (0, .retAddr 2)], [.int (nI i), .retAddr 2, .int (xs (((nI i) + (Int32.ofInt 1))).toNatClampNeg), .ref 0], h, n, cs, ss)) rfl hcs hss ?_
  refine lx_step C (en := (783, .iconst 2, 1, (0, 0, 0, 0), [])) rfl (F := (784, [(3, .int (nI i)), (2, .ref 542), (1, .ref 0), (0, .retAddr 2)], [.int (Int32.ofInt 2), .int (nI i), .retAddr 2, .int (xs (((nI i) + (Int32.ofInt 1))).toNatClampNeg), .ref 0], h, n, cs, ss)) rfl hcs hss ?_
  refine lx_step C (en := (784, .iadd, 1, (0, 0, 0, 0), [])) rfl (F := (785, [(3, .int (nI i)), (2, .ref 542), (1, .ref 0), (0, .retAddr 2)], [.int ((nI i) + (Int32.ofInt 2)), .retAddr 2, .int (xs (((nI i) + (Int32.ofInt 1))).toNatClampNeg), .ref 0], h, n, cs, ss)) rfl hcs hss ?_
  refine lx_at C (by omega) (by omega) (lx_ok (meth := meth) (en := (785, .iaload, 1, (0, 0, 0, 0), [])) rfl).1 ?_
  refine lx_step C (en := (786, .aload_n 0, 1, (0, 0, 0, 0), [])) rfl (F := (787, [(3, .int (nI i)), (2, .ref 542), (1, .ref 0), (0, .retAddr 2)], [.retAddr 2, .int (xs (((nI i) + (Int32.ofInt 2))).toNatClampNeg), .int (xs (((nI i) + (Int32.ofInt 1))).toNatClampNeg), .ref 0], h, n, cs, ss)) rfl hcs hss ?_
  refine lx_step C (en := (787, .iload_n 3, 1, (0, 0, 0, 0), [])) rfl (F := (788, [(3, .int (nI i)), (2, .ref 542), (1, .ref 0), (0, .retAddr 2)], [.int (nI i), .retAddr 2, .int (xs (((nI i) + (Int32.ofInt 2))).toNatClampNeg), .int (xs (((nI i) + (Int32.ofInt 1))).toNatClampNeg), .ref 0], h, n, cs, ss)) rfl hcs hss ?_
  refine lx_step C (en := (788, .iconst 3, 1, (0, 0, 0, 0), [])) rfl (F := (789, [(3, .int (nI i)), (2, .ref 542), (1, .ref 0), (0, .retAddr 2)], [.int (Int32.ofInt 3), .int (nI i), .retAddr 2, .int (xs (((nI i) + (Int32.ofInt 2))).toNatClampNeg), .int (xs (((nI i) + (Int32.ofInt 1))).toNatClampNeg), .ref 0], h, n, cs, ss)) rfl hcs hss ?_
  refine lx_step C (en := (789, .iadd, 1, (0, 0, 0, 0), [])) rfl (F := (790, [(3, .int (nI i)), (2, .ref 542), (1, .ref 0), (0, .retAddr 2)], [.int ((nI i) + (Int32.ofInt 3)), .retAddr 2, .int (xs (((nI i) + (Int32.ofInt 2))).toNatClampNeg), .int (xs (((nI i) + (Int32.ofInt 1))).toNatClampNeg), .ref 0], h, n, cs, ss)) rfl hcs hss ?_
  refine lx_at C (by omega) (by omega) (lx_ok (meth := meth) (en := (790, .iaload, 1, (0, 0, 0, 0), [])) rfl).1 ?_
  obtain ⟨fs1, hr1⟩ := ht_x hI.1
  obtain ⟨fs2, hr2⟩ := ht_m hI.1
  refine lx_call C mt_ok (lx_ok (en := (791, .invokevirtual 106, 3, (3, 123, 10, 0), [898, 899, 897])) rfl) (lo_inv mi_X10_times rfl hr1 rfl) (tm_ok (d := 37) ((xs (((nI i) + (Int32.ofInt 1))).toNatClampNeg)) ((xs (((nI i) + (Int32.ofInt 2))).toNatClampNeg)) ((xs (((nI i) + (Int32.ofInt 3))).toNatClampNeg)) _ h n) hcs hss ?_
  show lx_W G p l e s m below meth c b (794, [(3, .int (nI i)), (2, .ref 542), (1, .ref 0), (0, .retAddr 2)], [.int (tmS ((xs (((nI i) + (Int32.ofInt 1))).toNatClampNeg)) ((xs (((nI i) + (Int32.ofInt 2))).toNatClampNeg)) ((xs (((nI i) + (Int32.ofInt 3))).toNatClampNeg)))], h, n, cs, ss)
  refine lx_step C (en := (794, .pop, 1, (0, 0, 0, 0), [])) rfl (F := (795, [(3, .int (nI i)), (2, .ref 542), (1, .ref 0), (0, .retAddr 2)], [], h, n, cs, ss)) rfl hcs hss ?_
  refine lx_step C (en := (795, .aload_n 2, 1, (0, 0, 0, 0), [])) rfl (F := (796, [(3, .int (nI i)), (2, .ref 542), (1, .ref 0), (0, .retAddr 2)], [.ref 542], h, n, cs, ss)) rfl hcs hss ?_
  refine lx_step C (en := (796, .aload_n 0, 1, (0, 0, 0, 0), [])) rfl (F := (797, [(3, .int (nI i)), (2, .ref 542), (1, .ref 0), (0, .retAddr 2)], [.retAddr 2, .ref 542], h, n, cs, ss)) rfl hcs hss ?_
  refine lx_step C (en := (797, .iload_n 3, 1, (0, 0, 0, 0), [])) rfl (F := (798, [(3, .int (nI i)), (2, .ref 542), (1, .ref 0), (0, .retAddr 2)], [.int (nI i), .retAddr 2, .ref 542], h, n, cs, ss)) rfl hcs hss ?_
  refine lx_step C (en := (798, .iconst 1, 1, (0, 0, 0, 0), [])) rfl (F := (799, [(3, .int (nI i)), (2, .ref 542), (1, .ref 0), (0, .retAddr 2)], [.int (Int32.ofInt 1), .int (nI i), .retAddr 2, .ref 542], h, n, cs, ss)) rfl hcs hss ?_
  refine lx_step C (en := (799, .iadd, 1, (0, 0, 0, 0), [])) rfl (F := (800, [(3, .int (nI i)), (2, .ref 542), (1, .ref 0), (0, .retAddr 2)], [.int ((nI i) + (Int32.ofInt 1)), .retAddr 2, .ref 542], h, n, cs, ss)) rfl hcs hss ?_
  refine lx_at C (by omega) (by omega) (lx_ok (meth := meth) (en := (800, .iaload, 1, (0, 0, 0, 0), [])) rfl).1 ?_
  refine lx_step C (en := (801, .aload_n 0, 1, (0, 0, 0, 0), [])) rfl (F := (802, [(3, .int (nI i)), (2, .ref 542), (1, .ref 0), (0, .retAddr 2)], [.retAddr 2, .int (xs (((nI i) + (Int32.ofInt 1))).toNatClampNeg), .ref 542], h, n, cs, ss)) rfl hcs hss ?_
  refine lx_step C (en := (802, .iload_n 3, 1, (0, 0, 0, 0), [])) rfl (F := (803, [(3, .int (nI i)), (2, .ref 542), (1, .ref 0), (0, .retAddr 2)], [.int (nI i), .retAddr 2, .int (xs (((nI i) + (Int32.ofInt 1))).toNatClampNeg), .ref 542], h, n, cs, ss)) rfl hcs hss ?_
  refine lx_step C (en := (803, .iconst 2, 1, (0, 0, 0, 0), [])) rfl (F := (804, [(3, .int (nI i)), (2, .ref 542), (1, .ref 0), (0, .retAddr 2)], [.int (Int32.ofInt 2), .int (nI i), .retAddr 2, .int (xs (((nI i) + (Int32.ofInt 1))).toNatClampNeg), .ref 542], h, n, cs, ss)) rfl hcs hss ?_
  refine lx_step C (en := (804, .iadd, 1, (0, 0, 0, 0), [])) rfl (F := (805, [(3, .int (nI i)), (2, .ref 542), (1, .ref 0), (0, .retAddr 2)], [.int ((nI i) + (Int32.ofInt 2)), .retAddr 2, .int (xs (((nI i) + (Int32.ofInt 1))).toNatClampNeg), .ref 542], h, n, cs, ss)) rfl hcs hss ?_
  refine lx_at C (by omega) (by omega) (lx_ok (meth := meth) (en := (805, .iaload, 1, (0, 0, 0, 0), [])) rfl).1 ?_
  refine lx_step C (en := (806, .aload_n 0, 1, (0, 0, 0, 0), [])) rfl (F := (807, [(3, .int (nI i)), (2, .ref 542), (1, .ref 0), (0, .retAddr 2)], [.retAddr 2, .int (xs (((nI i) + (Int32.ofInt 2))).toNatClampNeg), .int (xs (((nI i) + (Int32.ofInt 1))).toNatClampNeg), .ref 542], h, n, cs, ss)) rfl hcs hss ?_
  refine lx_step C (en := (807, .iload_n 3, 1, (0, 0, 0, 0), [])) rfl (F := (808, [(3, .int (nI i)), (2, .ref 542), (1, .ref 0), (0, .retAddr 2)], [.int (nI i), .retAddr 2, .int (xs (((nI i) + (Int32.ofInt 2))).toNatClampNeg), .int (xs (((nI i) + (Int32.ofInt 1))).toNatClampNeg), .ref 542], h, n, cs, ss)) rfl hcs hss ?_
  refine lx_step C (en := (808, .iconst 3, 1, (0, 0, 0, 0), [])) rfl (F := (809, [(3, .int (nI i)), (2, .ref 542), (1, .ref 0), (0, .retAddr 2)], [.int (Int32.ofInt 3), .int (nI i), .retAddr 2, .int (xs (((nI i) + (Int32.ofInt 2))).toNatClampNeg), .int (xs (((nI i) + (Int32.ofInt 1))).toNatClampNeg), .ref 542], h, n, cs, ss)) rfl hcs hss ?_
  refine lx_step C (en := (809, .iadd, 1, (0, 0, 0, 0), [])) rfl (F := (810, [(3, .int (nI i)), (2, .ref 542), (1, .ref 0), (0, .retAddr 2)], [.int ((nI i) + (Int32.ofInt 3)), .retAddr 2, .int (xs (((nI i) + (Int32.ofInt 2))).toNatClampNeg), .int (xs (((nI i) + (Int32.ofInt 1))).toNatClampNeg), .ref 542], h, n, cs, ss)) rfl hcs hss ?_
  refine lx_at C (by omega) (by omega) (lx_ok (meth := meth) (en := (810, .iaload, 1, (0, 0, 0, 0), [])) rfl).1 ?_
  refine lx_call C mt_ok (lx_ok (en := (811, .invokevirtual 109, 3, (3, 201, 11, 0), [1465, 1466, 1464])) rfl) (lo_inv mi_X11_times rfl hr2 rfl) (rt_ok (d := 38) ((xs (((nI i) + (Int32.ofInt 1))).toNatClampNeg)) ((xs (((nI i) + (Int32.ofInt 2))).toNatClampNeg)) ((xs (((nI i) + (Int32.ofInt 3))).toNatClampNeg)) _ h n) hcs hss ?_
  show lx_W G p l e s m below meth c b (814, [(3, .int (nI i)), (2, .ref 542), (1, .ref 0), (0, .retAddr 2)], [.int (tmS ((xs (((nI i) + (Int32.ofInt 1))).toNatClampNeg)) ((xs (((nI i) + (Int32.ofInt 2))).toNatClampNeg)) ((xs (((nI i) + (Int32.ofInt 3))).toNatClampNeg)))], h, n, cs, ss)
  refine lx_step C (en := (814, .pop, 1, (0, 0, 0, 0), [])) rfl (F := (815, [(3, .int (nI i)), (2, .ref 542), (1, .ref 0), (0, .retAddr 2)], [], h, n, cs, ss)) rfl hcs hss ?_
  refine lx_step C (en := (815, .goto 358, 3, (0, 0, 0, 0), [])) rfl (F := (1173, [(3, .int (nI i)), (2, .ref 542), (1, .ref 0), (0, .retAddr 2)], [], h, n, cs, ss)) rfl hcs hss ?_
  exact kk h n cs ss hI
theorem op_22 (C : lx_C G p s m meth c b L xs) (H : ab_Hand l G) (H2 : ab_Hand2 l G) (hi : i + 5 ≤ L) (hL : L ≤ 2560) (hI : lx_I h n cs ss) (kk : ∀ (h' : ax_H) (n' cs' ss' : Nat), lx_I h' n' cs' ss' → lx_W G p l e s m below meth c b (1173, [(3, .int (nI i)), (2, .ref 542), (1, .ref 0), (0, .retAddr 2)], [], h', n', cs', ss')) : lx_W G p l e s m below meth c b (818, [(3, .int (nI i)), (2, .ref 542), (1, .ref 0), (0, .retAddr 2)], [], h, n, cs, ss) := by
  obtain ⟨hcs, hss⟩ := lx_I_le hI
  have ix1 : (nI i + Int32.ofInt 1).toInt = (i : Int) + 1 := lo_ix hi hL 1 (by decide)
  have ix2 : (nI i + Int32.ofInt 2).toInt = (i : Int) + 2 := lo_ix hi hL 2 (by decide)
  have ix3 : (nI i + Int32.ofInt 3).toInt = (i : Int) + 3 := lo_ix hi hL 3 (by decide)
  have ix4 : (nI i + Int32.ofInt 4).toInt = (i : Int) + 4 := lo_ix hi hL 4 (by decide)
  refine lx_step C (en := (818, .aload_n 1, 1, (0, 0, 0, 0), [])) rfl (F := (819, [(3, .int (nI i)), (2, .ref 542), (1, .ref 0), (0, .retAddr 2)], [.ref 0], h, n, cs, ss)) rfl hcs hss ?_
  refine lx_step C (en := (819, .aload_n 0, 1, (0, 0, 0, 0), [])) rfl (F := (820, [(3, .int (nI i)), (2, .ref 542), (1, .ref 0), (0, .retAddr 2)], [.retAddr 2, .ref 0], h, n, cs, ss)) rfl hcs hss ?_
  refine lx_step C (en := (820, .iload_n 3, 1, (0, 0, 0, 0), [])) rfl (F := (821, [(3, .int (nI i)), (2, .ref 542), (1, .ref 0), (0, .retAddr 2)], [.int (nI i), .retAddr 2, .ref 0], h, n, cs, ss)) rfl hcs hss ?_
  refine lx_step C (en := (821, .iconst 1, 1, (0, 0, 0, 0), [])) rfl (F := (822, [(3, .int (nI i)), (2, .ref 542), (1, .ref 0), (0, .retAddr 2)], [.int (Int32.ofInt 1), .int (nI i), .retAddr 2, .ref 0], h, n, cs, ss)) rfl hcs hss ?_
  refine lx_step C (en := (822, .iadd, 1, (0, 0, 0, 0), [])) rfl (F := (823, [(3, .int (nI i)), (2, .ref 542), (1, .ref 0), (0, .retAddr 2)], [.int ((nI i) + (Int32.ofInt 1)), .retAddr 2, .ref 0], h, n, cs, ss)) rfl hcs hss ?_
  refine lx_at C (by omega) (by omega) (lx_ok (meth := meth) (en := (823, .iaload, 1, (0, 0, 0, 0), [])) rfl).1 ?_
  refine lx_step C (en := (824, .aload_n 0, 1, (0, 0, 0, 0), [])) rfl (F := (825, [(3, .int (nI i)), (2, .ref 542), (1, .ref 0), (0, .retAddr 2)], [.retAddr 2, .int (xs (((nI i) + (Int32.ofInt 1))).toNatClampNeg), .ref 0], h, n, cs, ss)) rfl hcs hss ?_
  refine lx_step C (en := (825, .iload_n 3, 1, (0, 0, 0, 0), [])) rfl (F := (826, [(3, .int (nI i)), (2, .ref 542), (1, .ref 0), (0, .retAddr 2)], [.int (nI i), .retAddr 2, .int (xs (((nI i) + (Int32.ofInt 1))).toNatClampNeg), .ref 0], h, n, cs, ss)) rfl hcs hss ?_
  refine lx_step C (en := (826, .iconst 2, 1, (0, 0, 0, 0), [])) rfl (F := (827, [(3, .int (nI i)), (2, .ref 542), (1, .ref 0), (0, .retAddr 2)], [.int (Int32.ofInt 2), .int (nI i), .retAddr 2, .int (xs (((nI i) + (Int32.ofInt 1))).toNatClampNeg), .ref 0], h, n, cs, ss)) rfl hcs hss ?_
  refine lx_step C (en := (827, .iadd, 1, (0, 0, 0, 0), [])) rfl (F := (828, [(3, .int (nI i)), (2, .ref 542), (1, .ref 0), (0, .retAddr 2)], [.int ((nI i) + (Int32.ofInt 2)), .retAddr 2, .int (xs (((nI i) + (Int32.ofInt 1))).toNatClampNeg), .ref 0], h, n, cs, ss)) rfl hcs hss ?_
  refine lx_at C (by omega) (by omega) (lx_ok (meth := meth) (en := (828, .iaload, 1, (0, 0, 0, 0), [])) rfl).1 ?_
  refine lx_step C (en := (829, .aload_n 0, 1, (0, 0, 0, 0), [])) rfl (F := (830, [(3, .int (nI i)), (2, .ref 542), (1, .ref 0), (0, .retAddr 2)], [.retAddr 2, .int (xs (((nI i) + (Int32.ofInt 2))).toNatClampNeg), .int (xs (((nI i) + (Int32.ofInt 1))).toNatClampNeg), .ref 0], h, n, cs, ss)) rfl hcs hss ?_
  refine lx_step C (en := (830, .iload_n 3, 1, (0, 0, 0, 0), [])) rfl (F := (831, [(3, .int (nI i)), (2, .ref 542), (1, .ref 0), (0, .retAddr 2)], [.int (nI i), .retAddr 2, .int (xs (((nI i) + (Int32.ofInt 2))).toNatClampNeg), .int (xs (((nI i) + (Int32.ofInt 1))).toNatClampNeg), .ref 0], h, n, cs, ss)) rfl hcs hss ?_
  refine lx_step C (en := (831, .iconst 3, 1, (0, 0, 0, 0), [])) rfl (F := (832, [(3, .int (nI i)), (2, .ref 542), (1, .ref 0), (0, .retAddr 2)], [.int (Int32.ofInt 3), .int (nI i), .retAddr 2, .int (xs (((nI i) + (Int32.ofInt 2))).toNatClampNeg), .int (xs (((nI i) + (Int32.ofInt 1))).toNatClampNeg), .ref 0], h, n, cs, ss)) rfl hcs hss ?_
  refine lx_step C (en := (832, .iadd, 1, (0, 0, 0, 0), [])) rfl (F := (833, [(3, .int (nI i)), (2, .ref 542), (1, .ref 0), (0, .retAddr 2)], [.int ((nI i) + (Int32.ofInt 3)), .retAddr 2, .int (xs (((nI i) + (Int32.ofInt 2))).toNatClampNeg), .int (xs (((nI i) + (Int32.ofInt 1))).toNatClampNeg), .ref 0], h, n, cs, ss)) rfl hcs hss ?_
  refine lx_at C (by omega) (by omega) (lx_ok (meth := meth) (en := (833, .iaload, 1, (0, 0, 0, 0), [])) rfl).1 ?_
  obtain ⟨fs1, hr1⟩ := ht_x hI.1
  refine lo_call C hI (pb_X10_parts H hI.1 (xs (((nI i) + (Int32.ofInt 1))).toNatClampNeg) (xs (((nI i) + (Int32.ofInt 2))).toNatClampNeg) (xs (((nI i) + (Int32.ofInt 3))).toNatClampNeg)) (by decide +kernel) rfl (lo_inv mi_X10_parts rfl hr1 rfl) ⟨rfl, rfl⟩ (fun x1 h1 n1 hI1 => ?_)
  refine lx_step C (en := (837, .pop, 1, (0, 0, 0, 0), [])) rfl (F := (838, [(3, .int (nI i)), (2, .ref 542), (1, .ref 0), (0, .retAddr 2)], [], h1, n1, cs, ss)) rfl hcs hss ?_
  refine lx_step C (en := (838, .aload_n 2, 1, (0, 0, 0, 0), [])) rfl (F := (839, [(3, .int (nI i)), (2, .ref 542), (1, .ref 0), (0, .retAddr 2)], [.ref 542], h1, n1, cs, ss)) rfl hcs hss ?_
  refine lx_step C (en := (839, .aload_n 0, 1, (0, 0, 0, 0), [])) rfl (F := (840, [(3, .int (nI i)), (2, .ref 542), (1, .ref 0), (0, .retAddr 2)], [.retAddr 2, .ref 542], h1, n1, cs, ss)) rfl hcs hss ?_
  refine lx_step C (en := (840, .iload_n 3, 1, (0, 0, 0, 0), [])) rfl (F := (841, [(3, .int (nI i)), (2, .ref 542), (1, .ref 0), (0, .retAddr 2)], [.int (nI i), .retAddr 2, .ref 542], h1, n1, cs, ss)) rfl hcs hss ?_
  refine lx_step C (en := (841, .iconst 1, 1, (0, 0, 0, 0), [])) rfl (F := (842, [(3, .int (nI i)), (2, .ref 542), (1, .ref 0), (0, .retAddr 2)], [.int (Int32.ofInt 1), .int (nI i), .retAddr 2, .ref 542], h1, n1, cs, ss)) rfl hcs hss ?_
  refine lx_step C (en := (842, .iadd, 1, (0, 0, 0, 0), [])) rfl (F := (843, [(3, .int (nI i)), (2, .ref 542), (1, .ref 0), (0, .retAddr 2)], [.int ((nI i) + (Int32.ofInt 1)), .retAddr 2, .ref 542], h1, n1, cs, ss)) rfl hcs hss ?_
  refine lx_at C (by omega) (by omega) (lx_ok (meth := meth) (en := (843, .iaload, 1, (0, 0, 0, 0), [])) rfl).1 ?_
  refine lx_step C (en := (844, .aload_n 0, 1, (0, 0, 0, 0), [])) rfl (F := (845, [(3, .int (nI i)), (2, .ref 542), (1, .ref 0), (0, .retAddr 2)], [.retAddr 2, .int (xs (((nI i) + (Int32.ofInt 1))).toNatClampNeg), .ref 542], h1, n1, cs, ss)) rfl hcs hss ?_
  refine lx_step C (en := (845, .iload_n 3, 1, (0, 0, 0, 0), [])) rfl (F := (846, [(3, .int (nI i)), (2, .ref 542), (1, .ref 0), (0, .retAddr 2)], [.int (nI i), .retAddr 2, .int (xs (((nI i) + (Int32.ofInt 1))).toNatClampNeg), .ref 542], h1, n1, cs, ss)) rfl hcs hss ?_
  refine lx_step C (en := (846, .iconst 2, 1, (0, 0, 0, 0), [])) rfl (F := (847, [(3, .int (nI i)), (2, .ref 542), (1, .ref 0), (0, .retAddr 2)], [.int (Int32.ofInt 2), .int (nI i), .retAddr 2, .int (xs (((nI i) + (Int32.ofInt 1))).toNatClampNeg), .ref 542], h1, n1, cs, ss)) rfl hcs hss ?_
  refine lx_step C (en := (847, .iadd, 1, (0, 0, 0, 0), [])) rfl (F := (848, [(3, .int (nI i)), (2, .ref 542), (1, .ref 0), (0, .retAddr 2)], [.int ((nI i) + (Int32.ofInt 2)), .retAddr 2, .int (xs (((nI i) + (Int32.ofInt 1))).toNatClampNeg), .ref 542], h1, n1, cs, ss)) rfl hcs hss ?_
  refine lx_at C (by omega) (by omega) (lx_ok (meth := meth) (en := (848, .iaload, 1, (0, 0, 0, 0), [])) rfl).1 ?_
  refine lx_step C (en := (849, .aload_n 0, 1, (0, 0, 0, 0), [])) rfl (F := (850, [(3, .int (nI i)), (2, .ref 542), (1, .ref 0), (0, .retAddr 2)], [.retAddr 2, .int (xs (((nI i) + (Int32.ofInt 2))).toNatClampNeg), .int (xs (((nI i) + (Int32.ofInt 1))).toNatClampNeg), .ref 542], h1, n1, cs, ss)) rfl hcs hss ?_
  refine lx_step C (en := (850, .iload_n 3, 1, (0, 0, 0, 0), [])) rfl (F := (851, [(3, .int (nI i)), (2, .ref 542), (1, .ref 0), (0, .retAddr 2)], [.int (nI i), .retAddr 2, .int (xs (((nI i) + (Int32.ofInt 2))).toNatClampNeg), .int (xs (((nI i) + (Int32.ofInt 1))).toNatClampNeg), .ref 542], h1, n1, cs, ss)) rfl hcs hss ?_
  refine lx_step C (en := (851, .iconst 3, 1, (0, 0, 0, 0), [])) rfl (F := (852, [(3, .int (nI i)), (2, .ref 542), (1, .ref 0), (0, .retAddr 2)], [.int (Int32.ofInt 3), .int (nI i), .retAddr 2, .int (xs (((nI i) + (Int32.ofInt 2))).toNatClampNeg), .int (xs (((nI i) + (Int32.ofInt 1))).toNatClampNeg), .ref 542], h1, n1, cs, ss)) rfl hcs hss ?_
  refine lx_step C (en := (852, .iadd, 1, (0, 0, 0, 0), [])) rfl (F := (853, [(3, .int (nI i)), (2, .ref 542), (1, .ref 0), (0, .retAddr 2)], [.int ((nI i) + (Int32.ofInt 3)), .retAddr 2, .int (xs (((nI i) + (Int32.ofInt 2))).toNatClampNeg), .int (xs (((nI i) + (Int32.ofInt 1))).toNatClampNeg), .ref 542], h1, n1, cs, ss)) rfl hcs hss ?_
  refine lx_at C (by omega) (by omega) (lx_ok (meth := meth) (en := (853, .iaload, 1, (0, 0, 0, 0), [])) rfl).1 ?_
  obtain ⟨fs2, hr2⟩ := ht_m hI1.1
  refine lo_call C hI1 (pb_X11_parts H hI1.1 (xs (((nI i) + (Int32.ofInt 1))).toNatClampNeg) (xs (((nI i) + (Int32.ofInt 2))).toNatClampNeg) (xs (((nI i) + (Int32.ofInt 3))).toNatClampNeg)) (by decide +kernel) rfl (lo_inv mi_X11_parts rfl hr2 rfl) ⟨rfl, rfl⟩ (fun x2 h2 n2 hI2 => ?_)
  refine lx_step C (en := (857, .pop, 1, (0, 0, 0, 0), [])) rfl (F := (858, [(3, .int (nI i)), (2, .ref 542), (1, .ref 0), (0, .retAddr 2)], [], h2, n2, cs, ss)) rfl hcs hss ?_
  refine lx_step C (en := (858, .goto 315, 3, (0, 0, 0, 0), [])) rfl (F := (1173, [(3, .int (nI i)), (2, .ref 542), (1, .ref 0), (0, .retAddr 2)], [], h2, n2, cs, ss)) rfl hcs hss ?_
  exact kk h2 n2 cs ss hI2
theorem op_23 (C : lx_C G p s m meth c b L xs) (H : ab_Hand l G) (H2 : ab_Hand2 l G) (hi : i + 5 ≤ L) (hL : L ≤ 2560) (hI : lx_I h n cs ss) (kk : ∀ (h' : ax_H) (n' cs' ss' : Nat), lx_I h' n' cs' ss' → lx_W G p l e s m below meth c b (1173, [(3, .int (nI i)), (2, .ref 542), (1, .ref 0), (0, .retAddr 2)], [], h', n', cs', ss')) : lx_W G p l e s m below meth c b (861, [(3, .int (nI i)), (2, .ref 542), (1, .ref 0), (0, .retAddr 2)], [], h, n, cs, ss) := by
  obtain ⟨hcs, hss⟩ := lx_I_le hI
  have ix1 : (nI i + Int32.ofInt 1).toInt = (i : Int) + 1 := lo_ix hi hL 1 (by decide)
  have ix2 : (nI i + Int32.ofInt 2).toInt = (i : Int) + 2 := lo_ix hi hL 2 (by decide)
  have ix3 : (nI i + Int32.ofInt 3).toInt = (i : Int) + 3 := lo_ix hi hL 3 (by decide)
  have ix4 : (nI i + Int32.ofInt 4).toInt = (i : Int) + 4 := lo_ix hi hL 4 (by decide)
  refine lx_step C (en := (861, .aload_n 1, 1, (0, 0, 0, 0), [])) rfl (F := (862, [(3, .int (nI i)), (2, .ref 542), (1, .ref 0), (0, .retAddr 2)], [.ref 0], h, n, cs, ss)) rfl hcs hss ?_
  obtain ⟨x1, h1, n1, h2, n2, hM1, hM2, hT1, hI2⟩ := lx_st hI 
  obtain ⟨fs1, hr1⟩ := ht_x hI.1
  obtain ⟨fs2, hr2⟩ := ht_m hT1
  refine lx_call C mt_ok (lx_ok (en := (862, .invokevirtual 114, 3, (3, 125, 10, 0), [918, 919, 917])) rfl) (lo_inv mi_X10_stone rfl hr1 rfl) hM1 hcs hss ?_
  show lx_W G p l e s m below meth c b (865, [(3, .int (nI i)), (2, .ref 542), (1, .ref 0), (0, .retAddr 2)], [.int x1], h1, n1, cs, ss)
  refine lx_step C (en := (865, .pop, 1, (0, 0, 0, 0), [])) rfl (F := (866, [(3, .int (nI i)), (2, .ref 542), (1, .ref 0), (0, .retAddr 2)], [], h1, n1, cs, ss)) rfl hcs hss ?_
  refine lx_step C (en := (866, .aload_n 2, 1, (0, 0, 0, 0), [])) rfl (F := (867, [(3, .int (nI i)), (2, .ref 542), (1, .ref 0), (0, .retAddr 2)], [.ref 542], h1, n1, cs, ss)) rfl hcs hss ?_
  refine lx_call C mt_ok (lx_ok (en := (867, .invokevirtual 117, 3, (3, 203, 11, 0), [1473, 1474, 1472])) rfl) (lo_inv mi_X11_stone rfl hr2 rfl) hM2 hcs hss ?_
  show lx_W G p l e s m below meth c b (870, [(3, .int (nI i)), (2, .ref 542), (1, .ref 0), (0, .retAddr 2)], [.int x1], h2, n2, cs, ss)
  refine lx_step C (en := (870, .pop, 1, (0, 0, 0, 0), [])) rfl (F := (871, [(3, .int (nI i)), (2, .ref 542), (1, .ref 0), (0, .retAddr 2)], [], h2, n2, cs, ss)) rfl hcs hss ?_
  refine lx_step C (en := (871, .goto 302, 3, (0, 0, 0, 0), [])) rfl (F := (1173, [(3, .int (nI i)), (2, .ref 542), (1, .ref 0), (0, .retAddr 2)], [], h2, n2, cs, ss)) rfl hcs hss ?_
  exact kk h2 n2 cs ss hI2
theorem op_24 (C : lx_C G p s m meth c b L xs) (H : ab_Hand l G) (H2 : ab_Hand2 l G) (hi : i + 5 ≤ L) (hL : L ≤ 2560) (hI : lx_I h n cs ss) (kk : ∀ (h' : ax_H) (n' cs' ss' : Nat), lx_I h' n' cs' ss' → lx_W G p l e s m below meth c b (1173, [(3, .int (nI i)), (2, .ref 542), (1, .ref 0), (0, .retAddr 2)], [], h', n', cs', ss')) : lx_W G p l e s m below meth c b (874, [(3, .int (nI i)), (2, .ref 542), (1, .ref 0), (0, .retAddr 2)], [], h, n, cs, ss) := by
  obtain ⟨hcs, hss⟩ := lx_I_le hI
  have ix1 : (nI i + Int32.ofInt 1).toInt = (i : Int) + 1 := lo_ix hi hL 1 (by decide)
  have ix2 : (nI i + Int32.ofInt 2).toInt = (i : Int) + 2 := lo_ix hi hL 2 (by decide)
  have ix3 : (nI i + Int32.ofInt 3).toInt = (i : Int) + 3 := lo_ix hi hL 3 (by decide)
  have ix4 : (nI i + Int32.ofInt 4).toInt = (i : Int) + 4 := lo_ix hi hL 4 (by decide)
  refine lx_step C (en := (874, .aload_n 1, 1, (0, 0, 0, 0), [])) rfl (F := (875, [(3, .int (nI i)), (2, .ref 542), (1, .ref 0), (0, .retAddr 2)], [.ref 0], h, n, cs, ss)) rfl hcs hss ?_
  refine lx_step C (en := (875, .aload_n 0, 1, (0, 0, 0, 0), [])) rfl (F := (876, [(3, .int (nI i)), (2, .ref 542), (1, .ref 0), (0, .retAddr 2)], [.retAddr 2, .ref 0], h, n, cs, ss)) rfl hcs hss ?_
  refine lx_step C (en := (876, .iload_n 3, 1, (0, 0, 0, 0), [])) rfl (F := (877, [(3, .int (nI i)), (2, .ref 542), (1, .ref 0), (0, .retAddr 2)], [.int (nI i), .retAddr 2, .ref 0], h, n, cs, ss)) rfl hcs hss ?_
  refine lx_step C (en := (877, .iconst 1, 1, (0, 0, 0, 0), [])) rfl (F := (878, [(3, .int (nI i)), (2, .ref 542), (1, .ref 0), (0, .retAddr 2)], [.int (Int32.ofInt 1), .int (nI i), .retAddr 2, .ref 0], h, n, cs, ss)) rfl hcs hss ?_
  refine lx_step C (en := (878, .iadd, 1, (0, 0, 0, 0), [])) rfl (F := (879, [(3, .int (nI i)), (2, .ref 542), (1, .ref 0), (0, .retAddr 2)], [.int ((nI i) + (Int32.ofInt 1)), .retAddr 2, .ref 0], h, n, cs, ss)) rfl hcs hss ?_
  refine lx_at C (by omega) (by omega) (lx_ok (meth := meth) (en := (879, .iaload, 1, (0, 0, 0, 0), [])) rfl).1 ?_
  obtain ⟨fs1, hr1⟩ := ht_x hI.1
  refine lo_three C hI (pb_X10_could H hI.1 (xs (((nI i) + (Int32.ofInt 1))).toNatClampNeg)) (by decide +kernel) rfl (lo_inv mi_X10_could rfl hr1 rfl) (lo_invz mi_X10_could rfl hr1 rfl) ⟨rfl, rfl⟩ (fun x1 h1 n1 cs1 ss1 hI1 => ?_)
  obtain ⟨hcs1, hss1⟩ := lx_I_le hI1
  refine lx_step C (en := (883, .pop, 1, (0, 0, 0, 0), [])) rfl (F := (884, [(3, .int (nI i)), (2, .ref 542), (1, .ref 0), (0, .retAddr 2)], [], h1, n1, cs1, ss1)) rfl hcs1 hss1 ?_
  refine lx_step C (en := (884, .aload_n 2, 1, (0, 0, 0, 0), [])) rfl (F := (885, [(3, .int (nI i)), (2, .ref 542), (1, .ref 0), (0, .retAddr 2)], [.ref 542], h1, n1, cs1, ss1)) rfl hcs1 hss1 ?_
  refine lx_step C (en := (885, .aload_n 0, 1, (0, 0, 0, 0), [])) rfl (F := (886, [(3, .int (nI i)), (2, .ref 542), (1, .ref 0), (0, .retAddr 2)], [.retAddr 2, .ref 542], h1, n1, cs1, ss1)) rfl hcs1 hss1 ?_
  refine lx_step C (en := (886, .iload_n 3, 1, (0, 0, 0, 0), [])) rfl (F := (887, [(3, .int (nI i)), (2, .ref 542), (1, .ref 0), (0, .retAddr 2)], [.int (nI i), .retAddr 2, .ref 542], h1, n1, cs1, ss1)) rfl hcs1 hss1 ?_
  refine lx_step C (en := (887, .iconst 1, 1, (0, 0, 0, 0), [])) rfl (F := (888, [(3, .int (nI i)), (2, .ref 542), (1, .ref 0), (0, .retAddr 2)], [.int (Int32.ofInt 1), .int (nI i), .retAddr 2, .ref 542], h1, n1, cs1, ss1)) rfl hcs1 hss1 ?_
  refine lx_step C (en := (888, .iadd, 1, (0, 0, 0, 0), [])) rfl (F := (889, [(3, .int (nI i)), (2, .ref 542), (1, .ref 0), (0, .retAddr 2)], [.int ((nI i) + (Int32.ofInt 1)), .retAddr 2, .ref 542], h1, n1, cs1, ss1)) rfl hcs1 hss1 ?_
  refine lx_at C (by omega) (by omega) (lx_ok (meth := meth) (en := (889, .iaload, 1, (0, 0, 0, 0), [])) rfl).1 ?_
  obtain ⟨fs2, hr2⟩ := ht_m hI1.1
  refine lo_call C hI1 (pb_X11_could H hI1.1 (xs (((nI i) + (Int32.ofInt 1))).toNatClampNeg)) (by decide +kernel) rfl (lo_inv mi_X11_could rfl hr2 rfl) ⟨rfl, rfl⟩ (fun x2 h2 n2 hI2 => ?_)
  refine lx_step C (en := (893, .pop, 1, (0, 0, 0, 0), [])) rfl (F := (894, [(3, .int (nI i)), (2, .ref 542), (1, .ref 0), (0, .retAddr 2)], [], h2, n2, cs1, ss1)) rfl hcs1 hss1 ?_
  refine lx_step C (en := (894, .goto 279, 3, (0, 0, 0, 0), [])) rfl (F := (1173, [(3, .int (nI i)), (2, .ref 542), (1, .ref 0), (0, .retAddr 2)], [], h2, n2, cs1, ss1)) rfl hcs1 hss1 ?_
  exact kk h2 n2 cs1 ss1 hI2
theorem op_25 (C : lx_C G p s m meth c b L xs) (H : ab_Hand l G) (H2 : ab_Hand2 l G) (hi : i + 5 ≤ L) (hL : L ≤ 2560) (hI : lx_I h n cs ss) (kk : ∀ (h' : ax_H) (n' cs' ss' : Nat), lx_I h' n' cs' ss' → lx_W G p l e s m below meth c b (1173, [(3, .int (nI i)), (2, .ref 542), (1, .ref 0), (0, .retAddr 2)], [], h', n', cs', ss')) : lx_W G p l e s m below meth c b (897, [(3, .int (nI i)), (2, .ref 542), (1, .ref 0), (0, .retAddr 2)], [], h, n, cs, ss) := by
  obtain ⟨hcs, hss⟩ := lx_I_le hI
  have ix1 : (nI i + Int32.ofInt 1).toInt = (i : Int) + 1 := lo_ix hi hL 1 (by decide)
  have ix2 : (nI i + Int32.ofInt 2).toInt = (i : Int) + 2 := lo_ix hi hL 2 (by decide)
  have ix3 : (nI i + Int32.ofInt 3).toInt = (i : Int) + 3 := lo_ix hi hL 3 (by decide)
  have ix4 : (nI i + Int32.ofInt 4).toInt = (i : Int) + 4 := lo_ix hi hL 4 (by decide)
  refine lx_step C (en := (897, .aload_n 1, 1, (0, 0, 0, 0), [])) rfl (F := (898, [(3, .int (nI i)), (2, .ref 542), (1, .ref 0), (0, .retAddr 2)], [.ref 0], h, n, cs, ss)) rfl hcs hss ?_
  refine lx_step C (en := (898, .aload_n 0, 1, (0, 0, 0, 0), [])) rfl (F := (899, [(3, .int (nI i)), (2, .ref 542), (1, .ref 0), (0, .retAddr 2)], [.retAddr 2, .ref 0], h, n, cs, ss)) rfl hcs hss ?_
  refine lx_step C (en := (899, .iload_n 3, 1, (0, 0, 0, 0), [])) rfl (F := (900, [(3, .int (nI i)), (2, .ref 542), (1, .ref 0), (0, .retAddr 2)], [.int (nI i), .retAddr 2, .ref 0], h, n, cs, ss)) rfl hcs hss ?_
  refine lx_step C (en := (900, .iconst 1, 1, (0, 0, 0, 0), [])) rfl (F := (901, [(3, .int (nI i)), (2, .ref 542), (1, .ref 0), (0, .retAddr 2)], [.int (Int32.ofInt 1), .int (nI i), .retAddr 2, .ref 0], h, n, cs, ss)) rfl hcs hss ?_
  refine lx_step C (en := (901, .iadd, 1, (0, 0, 0, 0), [])) rfl (F := (902, [(3, .int (nI i)), (2, .ref 542), (1, .ref 0), (0, .retAddr 2)], [.int ((nI i) + (Int32.ofInt 1)), .retAddr 2, .ref 0], h, n, cs, ss)) rfl hcs hss ?_
  refine lx_at C (by omega) (by omega) (lx_ok (meth := meth) (en := (902, .iaload, 1, (0, 0, 0, 0), [])) rfl).1 ?_
  refine lx_step C (en := (903, .aload_n 0, 1, (0, 0, 0, 0), [])) rfl (F := (904, [(3, .int (nI i)), (2, .ref 542), (1, .ref 0), (0, .retAddr 2)], [.retAddr 2, .int (xs (((nI i) + (Int32.ofInt 1))).toNatClampNeg), .ref 0], h, n, cs, ss)) rfl hcs hss ?_
  refine lx_step C (en := (904, .iload_n 3, 1, (0, 0, 0, 0), [])) rfl (F := (905, [(3, .int (nI i)), (2, .ref 542), (1, .ref 0), (0, .retAddr 2)], [.int (nI i), .retAddr 2, .int (xs (((nI i) + (Int32.ofInt 1))).toNatClampNeg), .ref 0], h, n, cs, ss)) rfl hcs hss ?_
  refine lx_step C (en := (905, .iconst 2, 1, (0, 0, 0, 0), [])) rfl (F := (906, [(3, .int (nI i)), (2, .ref 542), (1, .ref 0), (0, .retAddr 2)], [.int (Int32.ofInt 2), .int (nI i), .retAddr 2, .int (xs (((nI i) + (Int32.ofInt 1))).toNatClampNeg), .ref 0], h, n, cs, ss)) rfl hcs hss ?_
  refine lx_step C (en := (906, .iadd, 1, (0, 0, 0, 0), [])) rfl (F := (907, [(3, .int (nI i)), (2, .ref 542), (1, .ref 0), (0, .retAddr 2)], [.int ((nI i) + (Int32.ofInt 2)), .retAddr 2, .int (xs (((nI i) + (Int32.ofInt 1))).toNatClampNeg), .ref 0], h, n, cs, ss)) rfl hcs hss ?_
  refine lx_at C (by omega) (by omega) (lx_ok (meth := meth) (en := (907, .iaload, 1, (0, 0, 0, 0), [])) rfl).1 ?_
  obtain ⟨fs1, hr1⟩ := ht_x hI.1
  refine lo_three C hI (pb_X10_says H hI.1 (xs (((nI i) + (Int32.ofInt 1))).toNatClampNeg) (xs (((nI i) + (Int32.ofInt 2))).toNatClampNeg)) (by decide +kernel) rfl (lo_inv mi_X10_says rfl hr1 rfl) (lo_invz mi_X10_says rfl hr1 rfl) ⟨rfl, rfl⟩ (fun x1 h1 n1 cs1 ss1 hI1 => ?_)
  obtain ⟨hcs1, hss1⟩ := lx_I_le hI1
  refine lx_step C (en := (911, .pop, 1, (0, 0, 0, 0), [])) rfl (F := (912, [(3, .int (nI i)), (2, .ref 542), (1, .ref 0), (0, .retAddr 2)], [], h1, n1, cs1, ss1)) rfl hcs1 hss1 ?_
  refine lx_step C (en := (912, .aload_n 2, 1, (0, 0, 0, 0), [])) rfl (F := (913, [(3, .int (nI i)), (2, .ref 542), (1, .ref 0), (0, .retAddr 2)], [.ref 542], h1, n1, cs1, ss1)) rfl hcs1 hss1 ?_
  refine lx_step C (en := (913, .aload_n 0, 1, (0, 0, 0, 0), [])) rfl (F := (914, [(3, .int (nI i)), (2, .ref 542), (1, .ref 0), (0, .retAddr 2)], [.retAddr 2, .ref 542], h1, n1, cs1, ss1)) rfl hcs1 hss1 ?_
  refine lx_step C (en := (914, .iload_n 3, 1, (0, 0, 0, 0), [])) rfl (F := (915, [(3, .int (nI i)), (2, .ref 542), (1, .ref 0), (0, .retAddr 2)], [.int (nI i), .retAddr 2, .ref 542], h1, n1, cs1, ss1)) rfl hcs1 hss1 ?_
  refine lx_step C (en := (915, .iconst 1, 1, (0, 0, 0, 0), [])) rfl (F := (916, [(3, .int (nI i)), (2, .ref 542), (1, .ref 0), (0, .retAddr 2)], [.int (Int32.ofInt 1), .int (nI i), .retAddr 2, .ref 542], h1, n1, cs1, ss1)) rfl hcs1 hss1 ?_
  refine lx_step C (en := (916, .iadd, 1, (0, 0, 0, 0), [])) rfl (F := (917, [(3, .int (nI i)), (2, .ref 542), (1, .ref 0), (0, .retAddr 2)], [.int ((nI i) + (Int32.ofInt 1)), .retAddr 2, .ref 542], h1, n1, cs1, ss1)) rfl hcs1 hss1 ?_
  refine lx_at C (by omega) (by omega) (lx_ok (meth := meth) (en := (917, .iaload, 1, (0, 0, 0, 0), [])) rfl).1 ?_
  refine lx_step C (en := (918, .aload_n 0, 1, (0, 0, 0, 0), [])) rfl (F := (919, [(3, .int (nI i)), (2, .ref 542), (1, .ref 0), (0, .retAddr 2)], [.retAddr 2, .int (xs (((nI i) + (Int32.ofInt 1))).toNatClampNeg), .ref 542], h1, n1, cs1, ss1)) rfl hcs1 hss1 ?_
  refine lx_step C (en := (919, .iload_n 3, 1, (0, 0, 0, 0), [])) rfl (F := (920, [(3, .int (nI i)), (2, .ref 542), (1, .ref 0), (0, .retAddr 2)], [.int (nI i), .retAddr 2, .int (xs (((nI i) + (Int32.ofInt 1))).toNatClampNeg), .ref 542], h1, n1, cs1, ss1)) rfl hcs1 hss1 ?_
  refine lx_step C (en := (920, .iconst 2, 1, (0, 0, 0, 0), [])) rfl (F := (921, [(3, .int (nI i)), (2, .ref 542), (1, .ref 0), (0, .retAddr 2)], [.int (Int32.ofInt 2), .int (nI i), .retAddr 2, .int (xs (((nI i) + (Int32.ofInt 1))).toNatClampNeg), .ref 542], h1, n1, cs1, ss1)) rfl hcs1 hss1 ?_
  refine lx_step C (en := (921, .iadd, 1, (0, 0, 0, 0), [])) rfl (F := (922, [(3, .int (nI i)), (2, .ref 542), (1, .ref 0), (0, .retAddr 2)], [.int ((nI i) + (Int32.ofInt 2)), .retAddr 2, .int (xs (((nI i) + (Int32.ofInt 1))).toNatClampNeg), .ref 542], h1, n1, cs1, ss1)) rfl hcs1 hss1 ?_
  refine lx_at C (by omega) (by omega) (lx_ok (meth := meth) (en := (922, .iaload, 1, (0, 0, 0, 0), [])) rfl).1 ?_
  obtain ⟨fs2, hr2⟩ := ht_m hI1.1
  refine lo_call C hI1 (pb_X11_says H hI1.1 (xs (((nI i) + (Int32.ofInt 1))).toNatClampNeg) (xs (((nI i) + (Int32.ofInt 2))).toNatClampNeg)) (by decide +kernel) rfl (lo_inv mi_X11_says rfl hr2 rfl) ⟨rfl, rfl⟩ (fun x2 h2 n2 hI2 => ?_)
  refine lx_step C (en := (926, .pop, 1, (0, 0, 0, 0), [])) rfl (F := (927, [(3, .int (nI i)), (2, .ref 542), (1, .ref 0), (0, .retAddr 2)], [], h2, n2, cs1, ss1)) rfl hcs1 hss1 ?_
  refine lx_step C (en := (927, .goto 246, 3, (0, 0, 0, 0), [])) rfl (F := (1173, [(3, .int (nI i)), (2, .ref 542), (1, .ref 0), (0, .retAddr 2)], [], h2, n2, cs1, ss1)) rfl hcs1 hss1 ?_
  exact kk h2 n2 cs1 ss1 hI2
theorem op_26 (C : lx_C G p s m meth c b L xs) (H : ab_Hand l G) (H2 : ab_Hand2 l G) (hi : i + 5 ≤ L) (hL : L ≤ 2560) (hI : lx_I h n cs ss) (kk : ∀ (h' : ax_H) (n' cs' ss' : Nat), lx_I h' n' cs' ss' → lx_W G p l e s m below meth c b (1173, [(3, .int (nI i)), (2, .ref 542), (1, .ref 0), (0, .retAddr 2)], [], h', n', cs', ss')) : lx_W G p l e s m below meth c b (930, [(3, .int (nI i)), (2, .ref 542), (1, .ref 0), (0, .retAddr 2)], [], h, n, cs, ss) := by
  obtain ⟨hcs, hss⟩ := lx_I_le hI
  have ix1 : (nI i + Int32.ofInt 1).toInt = (i : Int) + 1 := lo_ix hi hL 1 (by decide)
  have ix2 : (nI i + Int32.ofInt 2).toInt = (i : Int) + 2 := lo_ix hi hL 2 (by decide)
  have ix3 : (nI i + Int32.ofInt 3).toInt = (i : Int) + 3 := lo_ix hi hL 3 (by decide)
  have ix4 : (nI i + Int32.ofInt 4).toInt = (i : Int) + 4 := lo_ix hi hL 4 (by decide)
  refine lx_step C (en := (930, .aload_n 1, 1, (0, 0, 0, 0), [])) rfl (F := (931, [(3, .int (nI i)), (2, .ref 542), (1, .ref 0), (0, .retAddr 2)], [.ref 0], h, n, cs, ss)) rfl hcs hss ?_
  refine lx_step C (en := (931, .aload_n 0, 1, (0, 0, 0, 0), [])) rfl (F := (932, [(3, .int (nI i)), (2, .ref 542), (1, .ref 0), (0, .retAddr 2)], [.retAddr 2, .ref 0], h, n, cs, ss)) rfl hcs hss ?_
  refine lx_step C (en := (932, .iload_n 3, 1, (0, 0, 0, 0), [])) rfl (F := (933, [(3, .int (nI i)), (2, .ref 542), (1, .ref 0), (0, .retAddr 2)], [.int (nI i), .retAddr 2, .ref 0], h, n, cs, ss)) rfl hcs hss ?_
  refine lx_step C (en := (933, .iconst 1, 1, (0, 0, 0, 0), [])) rfl (F := (934, [(3, .int (nI i)), (2, .ref 542), (1, .ref 0), (0, .retAddr 2)], [.int (Int32.ofInt 1), .int (nI i), .retAddr 2, .ref 0], h, n, cs, ss)) rfl hcs hss ?_
  refine lx_step C (en := (934, .iadd, 1, (0, 0, 0, 0), [])) rfl (F := (935, [(3, .int (nI i)), (2, .ref 542), (1, .ref 0), (0, .retAddr 2)], [.int ((nI i) + (Int32.ofInt 1)), .retAddr 2, .ref 0], h, n, cs, ss)) rfl hcs hss ?_
  refine lx_at C (by omega) (by omega) (lx_ok (meth := meth) (en := (935, .iaload, 1, (0, 0, 0, 0), [])) rfl).1 ?_
  refine lx_step C (en := (936, .aload_n 0, 1, (0, 0, 0, 0), [])) rfl (F := (937, [(3, .int (nI i)), (2, .ref 542), (1, .ref 0), (0, .retAddr 2)], [.retAddr 2, .int (xs (((nI i) + (Int32.ofInt 1))).toNatClampNeg), .ref 0], h, n, cs, ss)) rfl hcs hss ?_
  refine lx_step C (en := (937, .iload_n 3, 1, (0, 0, 0, 0), [])) rfl (F := (938, [(3, .int (nI i)), (2, .ref 542), (1, .ref 0), (0, .retAddr 2)], [.int (nI i), .retAddr 2, .int (xs (((nI i) + (Int32.ofInt 1))).toNatClampNeg), .ref 0], h, n, cs, ss)) rfl hcs hss ?_
  refine lx_step C (en := (938, .iconst 2, 1, (0, 0, 0, 0), [])) rfl (F := (939, [(3, .int (nI i)), (2, .ref 542), (1, .ref 0), (0, .retAddr 2)], [.int (Int32.ofInt 2), .int (nI i), .retAddr 2, .int (xs (((nI i) + (Int32.ofInt 1))).toNatClampNeg), .ref 0], h, n, cs, ss)) rfl hcs hss ?_
  refine lx_step C (en := (939, .iadd, 1, (0, 0, 0, 0), [])) rfl (F := (940, [(3, .int (nI i)), (2, .ref 542), (1, .ref 0), (0, .retAddr 2)], [.int ((nI i) + (Int32.ofInt 2)), .retAddr 2, .int (xs (((nI i) + (Int32.ofInt 1))).toNatClampNeg), .ref 0], h, n, cs, ss)) rfl hcs hss ?_
  refine lx_at C (by omega) (by omega) (lx_ok (meth := meth) (en := (940, .iaload, 1, (0, 0, 0, 0), [])) rfl).1 ?_
  obtain ⟨fs1, hr1⟩ := ht_x hI.1
  refine lo_three C hI (pb_X10_sure H hI.1 (xs (((nI i) + (Int32.ofInt 1))).toNatClampNeg) (xs (((nI i) + (Int32.ofInt 2))).toNatClampNeg)) (by decide +kernel) rfl (lo_inv mi_X10_sure rfl hr1 rfl) (lo_invz mi_X10_sure rfl hr1 rfl) ⟨rfl, rfl⟩ (fun x1 h1 n1 cs1 ss1 hI1 => ?_)
  obtain ⟨hcs1, hss1⟩ := lx_I_le hI1
  refine lx_step C (en := (944, .pop, 1, (0, 0, 0, 0), [])) rfl (F := (945, [(3, .int (nI i)), (2, .ref 542), (1, .ref 0), (0, .retAddr 2)], [], h1, n1, cs1, ss1)) rfl hcs1 hss1 ?_
  refine lx_step C (en := (945, .aload_n 2, 1, (0, 0, 0, 0), [])) rfl (F := (946, [(3, .int (nI i)), (2, .ref 542), (1, .ref 0), (0, .retAddr 2)], [.ref 542], h1, n1, cs1, ss1)) rfl hcs1 hss1 ?_
  refine lx_step C (en := (946, .aload_n 0, 1, (0, 0, 0, 0), [])) rfl (F := (947, [(3, .int (nI i)), (2, .ref 542), (1, .ref 0), (0, .retAddr 2)], [.retAddr 2, .ref 542], h1, n1, cs1, ss1)) rfl hcs1 hss1 ?_
  refine lx_step C (en := (947, .iload_n 3, 1, (0, 0, 0, 0), [])) rfl (F := (948, [(3, .int (nI i)), (2, .ref 542), (1, .ref 0), (0, .retAddr 2)], [.int (nI i), .retAddr 2, .ref 542], h1, n1, cs1, ss1)) rfl hcs1 hss1 ?_
  refine lx_step C (en := (948, .iconst 1, 1, (0, 0, 0, 0), [])) rfl (F := (949, [(3, .int (nI i)), (2, .ref 542), (1, .ref 0), (0, .retAddr 2)], [.int (Int32.ofInt 1), .int (nI i), .retAddr 2, .ref 542], h1, n1, cs1, ss1)) rfl hcs1 hss1 ?_
  refine lx_step C (en := (949, .iadd, 1, (0, 0, 0, 0), [])) rfl (F := (950, [(3, .int (nI i)), (2, .ref 542), (1, .ref 0), (0, .retAddr 2)], [.int ((nI i) + (Int32.ofInt 1)), .retAddr 2, .ref 542], h1, n1, cs1, ss1)) rfl hcs1 hss1 ?_
  refine lx_at C (by omega) (by omega) (lx_ok (meth := meth) (en := (950, .iaload, 1, (0, 0, 0, 0), [])) rfl).1 ?_
  refine lx_step C (en := (951, .aload_n 0, 1, (0, 0, 0, 0), [])) rfl (F := (952, [(3, .int (nI i)), (2, .ref 542), (1, .ref 0), (0, .retAddr 2)], [.retAddr 2, .int (xs (((nI i) + (Int32.ofInt 1))).toNatClampNeg), .ref 542], h1, n1, cs1, ss1)) rfl hcs1 hss1 ?_
  refine lx_step C (en := (952, .iload_n 3, 1, (0, 0, 0, 0), [])) rfl (F := (953, [(3, .int (nI i)), (2, .ref 542), (1, .ref 0), (0, .retAddr 2)], [.int (nI i), .retAddr 2, .int (xs (((nI i) + (Int32.ofInt 1))).toNatClampNeg), .ref 542], h1, n1, cs1, ss1)) rfl hcs1 hss1 ?_
  refine lx_step C (en := (953, .iconst 2, 1, (0, 0, 0, 0), [])) rfl (F := (954, [(3, .int (nI i)), (2, .ref 542), (1, .ref 0), (0, .retAddr 2)], [.int (Int32.ofInt 2), .int (nI i), .retAddr 2, .int (xs (((nI i) + (Int32.ofInt 1))).toNatClampNeg), .ref 542], h1, n1, cs1, ss1)) rfl hcs1 hss1 ?_
  refine lx_step C (en := (954, .iadd, 1, (0, 0, 0, 0), [])) rfl (F := (955, [(3, .int (nI i)), (2, .ref 542), (1, .ref 0), (0, .retAddr 2)], [.int ((nI i) + (Int32.ofInt 2)), .retAddr 2, .int (xs (((nI i) + (Int32.ofInt 1))).toNatClampNeg), .ref 542], h1, n1, cs1, ss1)) rfl hcs1 hss1 ?_
  refine lx_at C (by omega) (by omega) (lx_ok (meth := meth) (en := (955, .iaload, 1, (0, 0, 0, 0), [])) rfl).1 ?_
  obtain ⟨fs2, hr2⟩ := ht_m hI1.1
  refine lo_call C hI1 (pb_X11_sure H hI1.1 (xs (((nI i) + (Int32.ofInt 1))).toNatClampNeg) (xs (((nI i) + (Int32.ofInt 2))).toNatClampNeg)) (by decide +kernel) rfl (lo_inv mi_X11_sure rfl hr2 rfl) ⟨rfl, rfl⟩ (fun x2 h2 n2 hI2 => ?_)
  refine lx_step C (en := (959, .pop, 1, (0, 0, 0, 0), [])) rfl (F := (960, [(3, .int (nI i)), (2, .ref 542), (1, .ref 0), (0, .retAddr 2)], [], h2, n2, cs1, ss1)) rfl hcs1 hss1 ?_
  refine lx_step C (en := (960, .goto 213, 3, (0, 0, 0, 0), [])) rfl (F := (1173, [(3, .int (nI i)), (2, .ref 542), (1, .ref 0), (0, .retAddr 2)], [], h2, n2, cs1, ss1)) rfl hcs1 hss1 ?_
  exact kk h2 n2 cs1 ss1 hI2
theorem op_27 (C : lx_C G p s m meth c b L xs) (H : ab_Hand l G) (H2 : ab_Hand2 l G) (hi : i + 5 ≤ L) (hL : L ≤ 2560) (hI : lx_I h n cs ss) (kk : ∀ (h' : ax_H) (n' cs' ss' : Nat), lx_I h' n' cs' ss' → lx_W G p l e s m below meth c b (1173, [(3, .int (nI i)), (2, .ref 542), (1, .ref 0), (0, .retAddr 2)], [], h', n', cs', ss')) : lx_W G p l e s m below meth c b (963, [(3, .int (nI i)), (2, .ref 542), (1, .ref 0), (0, .retAddr 2)], [], h, n, cs, ss) := by
  obtain ⟨hcs, hss⟩ := lx_I_le hI
  have ix1 : (nI i + Int32.ofInt 1).toInt = (i : Int) + 1 := lo_ix hi hL 1 (by decide)
  have ix2 : (nI i + Int32.ofInt 2).toInt = (i : Int) + 2 := lo_ix hi hL 2 (by decide)
  have ix3 : (nI i + Int32.ofInt 3).toInt = (i : Int) + 3 := lo_ix hi hL 3 (by decide)
  have ix4 : (nI i + Int32.ofInt 4).toInt = (i : Int) + 4 := lo_ix hi hL 4 (by decide)
  refine lx_step C (en := (963, .aload_n 1, 1, (0, 0, 0, 0), [])) rfl (F := (964, [(3, .int (nI i)), (2, .ref 542), (1, .ref 0), (0, .retAddr 2)], [.ref 0], h, n, cs, ss)) rfl hcs hss ?_
  refine lx_step C (en := (964, .aload_n 0, 1, (0, 0, 0, 0), [])) rfl (F := (965, [(3, .int (nI i)), (2, .ref 542), (1, .ref 0), (0, .retAddr 2)], [.retAddr 2, .ref 0], h, n, cs, ss)) rfl hcs hss ?_
  refine lx_step C (en := (965, .iload_n 3, 1, (0, 0, 0, 0), [])) rfl (F := (966, [(3, .int (nI i)), (2, .ref 542), (1, .ref 0), (0, .retAddr 2)], [.int (nI i), .retAddr 2, .ref 0], h, n, cs, ss)) rfl hcs hss ?_
  refine lx_step C (en := (966, .iconst 1, 1, (0, 0, 0, 0), [])) rfl (F := (967, [(3, .int (nI i)), (2, .ref 542), (1, .ref 0), (0, .retAddr 2)], [.int (Int32.ofInt 1), .int (nI i), .retAddr 2, .ref 0], h, n, cs, ss)) rfl hcs hss ?_
  refine lx_step C (en := (967, .iadd, 1, (0, 0, 0, 0), [])) rfl (F := (968, [(3, .int (nI i)), (2, .ref 542), (1, .ref 0), (0, .retAddr 2)], [.int ((nI i) + (Int32.ofInt 1)), .retAddr 2, .ref 0], h, n, cs, ss)) rfl hcs hss ?_
  refine lx_at C (by omega) (by omega) (lx_ok (meth := meth) (en := (968, .iaload, 1, (0, 0, 0, 0), [])) rfl).1 ?_
  refine lx_step C (en := (969, .aload_n 0, 1, (0, 0, 0, 0), [])) rfl (F := (970, [(3, .int (nI i)), (2, .ref 542), (1, .ref 0), (0, .retAddr 2)], [.retAddr 2, .int (xs (((nI i) + (Int32.ofInt 1))).toNatClampNeg), .ref 0], h, n, cs, ss)) rfl hcs hss ?_
  refine lx_step C (en := (970, .iload_n 3, 1, (0, 0, 0, 0), [])) rfl (F := (971, [(3, .int (nI i)), (2, .ref 542), (1, .ref 0), (0, .retAddr 2)], [.int (nI i), .retAddr 2, .int (xs (((nI i) + (Int32.ofInt 1))).toNatClampNeg), .ref 0], h, n, cs, ss)) rfl hcs hss ?_
  refine lx_step C (en := (971, .iconst 2, 1, (0, 0, 0, 0), [])) rfl (F := (972, [(3, .int (nI i)), (2, .ref 542), (1, .ref 0), (0, .retAddr 2)], [.int (Int32.ofInt 2), .int (nI i), .retAddr 2, .int (xs (((nI i) + (Int32.ofInt 1))).toNatClampNeg), .ref 0], h, n, cs, ss)) rfl hcs hss ?_
  refine lx_step C (en := (972, .iadd, 1, (0, 0, 0, 0), [])) rfl (F := (973, [(3, .int (nI i)), (2, .ref 542), (1, .ref 0), (0, .retAddr 2)], [.int ((nI i) + (Int32.ofInt 2)), .retAddr 2, .int (xs (((nI i) + (Int32.ofInt 1))).toNatClampNeg), .ref 0], h, n, cs, ss)) rfl hcs hss ?_
  refine lx_at C (by omega) (by omega) (lx_ok (meth := meth) (en := (973, .iaload, 1, (0, 0, 0, 0), [])) rfl).1 ?_
  obtain ⟨x1, h1, n1, h2, n2, hM1, hM2, hT1, hI2⟩ := lx_nt H hI ((xs (((nI i) + (Int32.ofInt 1))).toNatClampNeg)) ((xs (((nI i) + (Int32.ofInt 2))).toNatClampNeg))
  obtain ⟨fs1, hr1⟩ := ht_x hI.1
  obtain ⟨fs2, hr2⟩ := ht_m hT1
  refine lx_call C mt_ok (lx_ok (en := (974, .invokevirtual 130, 3, (3, 129, 10, 0), [975, 976, 974])) rfl) (lo_inv mi_X10_note rfl hr1 rfl) hM1 hcs hss ?_
  show lx_W G p l e s m below meth c b (977, [(3, .int (nI i)), (2, .ref 542), (1, .ref 0), (0, .retAddr 2)], [.int x1], h1, n1, cs, ss)
  refine lx_step C (en := (977, .pop, 1, (0, 0, 0, 0), [])) rfl (F := (978, [(3, .int (nI i)), (2, .ref 542), (1, .ref 0), (0, .retAddr 2)], [], h1, n1, cs, ss)) rfl hcs hss ?_
  refine lx_step C (en := (978, .aload_n 2, 1, (0, 0, 0, 0), [])) rfl (F := (979, [(3, .int (nI i)), (2, .ref 542), (1, .ref 0), (0, .retAddr 2)], [.ref 542], h1, n1, cs, ss)) rfl hcs hss ?_
  refine lx_step C (en := (979, .aload_n 0, 1, (0, 0, 0, 0), [])) rfl (F := (980, [(3, .int (nI i)), (2, .ref 542), (1, .ref 0), (0, .retAddr 2)], [.retAddr 2, .ref 542], h1, n1, cs, ss)) rfl hcs hss ?_
  refine lx_step C (en := (980, .iload_n 3, 1, (0, 0, 0, 0), [])) rfl (F := (981, [(3, .int (nI i)), (2, .ref 542), (1, .ref 0), (0, .retAddr 2)], [.int (nI i), .retAddr 2, .ref 542], h1, n1, cs, ss)) rfl hcs hss ?_
  refine lx_step C (en := (981, .iconst 1, 1, (0, 0, 0, 0), [])) rfl (F := (982, [(3, .int (nI i)), (2, .ref 542), (1, .ref 0), (0, .retAddr 2)], [.int (Int32.ofInt 1), .int (nI i), .retAddr 2, .ref 542], h1, n1, cs, ss)) rfl hcs hss ?_
  refine lx_step C (en := (982, .iadd, 1, (0, 0, 0, 0), [])) rfl (F := (983, [(3, .int (nI i)), (2, .ref 542), (1, .ref 0), (0, .retAddr 2)], [.int ((nI i) + (Int32.ofInt 1)), .retAddr 2, .ref 542], h1, n1, cs, ss)) rfl hcs hss ?_
  refine lx_at C (by omega) (by omega) (lx_ok (meth := meth) (en := (983, .iaload, 1, (0, 0, 0, 0), [])) rfl).1 ?_
  refine lx_step C (en := (984, .aload_n 0, 1, (0, 0, 0, 0), [])) rfl (F := (985, [(3, .int (nI i)), (2, .ref 542), (1, .ref 0), (0, .retAddr 2)], [.retAddr 2, .int (xs (((nI i) + (Int32.ofInt 1))).toNatClampNeg), .ref 542], h1, n1, cs, ss)) rfl hcs hss ?_
  refine lx_step C (en := (985, .iload_n 3, 1, (0, 0, 0, 0), [])) rfl (F := (986, [(3, .int (nI i)), (2, .ref 542), (1, .ref 0), (0, .retAddr 2)], [.int (nI i), .retAddr 2, .int (xs (((nI i) + (Int32.ofInt 1))).toNatClampNeg), .ref 542], h1, n1, cs, ss)) rfl hcs hss ?_
  refine lx_step C (en := (986, .iconst 2, 1, (0, 0, 0, 0), [])) rfl (F := (987, [(3, .int (nI i)), (2, .ref 542), (1, .ref 0), (0, .retAddr 2)], [.int (Int32.ofInt 2), .int (nI i), .retAddr 2, .int (xs (((nI i) + (Int32.ofInt 1))).toNatClampNeg), .ref 542], h1, n1, cs, ss)) rfl hcs hss ?_
  refine lx_step C (en := (987, .iadd, 1, (0, 0, 0, 0), [])) rfl (F := (988, [(3, .int (nI i)), (2, .ref 542), (1, .ref 0), (0, .retAddr 2)], [.int ((nI i) + (Int32.ofInt 2)), .retAddr 2, .int (xs (((nI i) + (Int32.ofInt 1))).toNatClampNeg), .ref 542], h1, n1, cs, ss)) rfl hcs hss ?_
  refine lx_at C (by omega) (by omega) (lx_ok (meth := meth) (en := (988, .iaload, 1, (0, 0, 0, 0), [])) rfl).1 ?_
  refine lx_call C mt_ok (lx_ok (en := (989, .invokevirtual 133, 3, (3, 216, 11, 0), [1524, 1525, 1523])) rfl) (lo_inv mi_X11_note rfl hr2 rfl) hM2 hcs hss ?_
  show lx_W G p l e s m below meth c b (992, [(3, .int (nI i)), (2, .ref 542), (1, .ref 0), (0, .retAddr 2)], [.int x1], h2, n2, cs, ss)
  refine lx_step C (en := (992, .pop, 1, (0, 0, 0, 0), [])) rfl (F := (993, [(3, .int (nI i)), (2, .ref 542), (1, .ref 0), (0, .retAddr 2)], [], h2, n2, cs, ss)) rfl hcs hss ?_
  refine lx_step C (en := (993, .goto 180, 3, (0, 0, 0, 0), [])) rfl (F := (1173, [(3, .int (nI i)), (2, .ref 542), (1, .ref 0), (0, .retAddr 2)], [], h2, n2, cs, ss)) rfl hcs hss ?_
  exact kk h2 n2 cs ss hI2
theorem op_28 (C : lx_C G p s m meth c b L xs) (H : ab_Hand l G) (H2 : ab_Hand2 l G) (hi : i + 5 ≤ L) (hL : L ≤ 2560) (hI : lx_I h n cs ss) (kk : ∀ (h' : ax_H) (n' cs' ss' : Nat), lx_I h' n' cs' ss' → lx_W G p l e s m below meth c b (1173, [(3, .int (nI i)), (2, .ref 542), (1, .ref 0), (0, .retAddr 2)], [], h', n', cs', ss')) : lx_W G p l e s m below meth c b (996, [(3, .int (nI i)), (2, .ref 542), (1, .ref 0), (0, .retAddr 2)], [], h, n, cs, ss) := by
  obtain ⟨hcs, hss⟩ := lx_I_le hI
  have ix1 : (nI i + Int32.ofInt 1).toInt = (i : Int) + 1 := lo_ix hi hL 1 (by decide)
  have ix2 : (nI i + Int32.ofInt 2).toInt = (i : Int) + 2 := lo_ix hi hL 2 (by decide)
  have ix3 : (nI i + Int32.ofInt 3).toInt = (i : Int) + 3 := lo_ix hi hL 3 (by decide)
  have ix4 : (nI i + Int32.ofInt 4).toInt = (i : Int) + 4 := lo_ix hi hL 4 (by decide)
  refine lx_step C (en := (996, .aload_n 1, 1, (0, 0, 0, 0), [])) rfl (F := (997, [(3, .int (nI i)), (2, .ref 542), (1, .ref 0), (0, .retAddr 2)], [.ref 0], h, n, cs, ss)) rfl hcs hss ?_
  refine lx_step C (en := (997, .aload_n 0, 1, (0, 0, 0, 0), [])) rfl (F := (998, [(3, .int (nI i)), (2, .ref 542), (1, .ref 0), (0, .retAddr 2)], [.retAddr 2, .ref 0], h, n, cs, ss)) rfl hcs hss ?_
  refine lx_step C (en := (998, .iload_n 3, 1, (0, 0, 0, 0), [])) rfl (F := (999, [(3, .int (nI i)), (2, .ref 542), (1, .ref 0), (0, .retAddr 2)], [.int (nI i), .retAddr 2, .ref 0], h, n, cs, ss)) rfl hcs hss ?_
  refine lx_step C (en := (999, .iconst 1, 1, (0, 0, 0, 0), [])) rfl (F := (1000, [(3, .int (nI i)), (2, .ref 542), (1, .ref 0), (0, .retAddr 2)], [.int (Int32.ofInt 1), .int (nI i), .retAddr 2, .ref 0], h, n, cs, ss)) rfl hcs hss ?_
  refine lx_step C (en := (1000, .iadd, 1, (0, 0, 0, 0), [])) rfl (F := (1001, [(3, .int (nI i)), (2, .ref 542), (1, .ref 0), (0, .retAddr 2)], [.int ((nI i) + (Int32.ofInt 1)), .retAddr 2, .ref 0], h, n, cs, ss)) rfl hcs hss ?_
  refine lx_at C (by omega) (by omega) (lx_ok (meth := meth) (en := (1001, .iaload, 1, (0, 0, 0, 0), [])) rfl).1 ?_
  obtain ⟨fs1, hr1⟩ := ht_x hI.1
  refine lo_call C hI (pb_X10_habit H hI.1 (xs (((nI i) + (Int32.ofInt 1))).toNatClampNeg)) (by decide +kernel) rfl (lo_inv mi_X10_habit rfl hr1 rfl) ⟨rfl, rfl⟩ (fun x1 h1 n1 hI1 => ?_)
  refine lx_step C (en := (1005, .pop, 1, (0, 0, 0, 0), [])) rfl (F := (1006, [(3, .int (nI i)), (2, .ref 542), (1, .ref 0), (0, .retAddr 2)], [], h1, n1, cs, ss)) rfl hcs hss ?_
  refine lx_step C (en := (1006, .aload_n 2, 1, (0, 0, 0, 0), [])) rfl (F := (1007, [(3, .int (nI i)), (2, .ref 542), (1, .ref 0), (0, .retAddr 2)], [.ref 542], h1, n1, cs, ss)) rfl hcs hss ?_
  refine lx_step C (en := (1007, .aload_n 0, 1, (0, 0, 0, 0), [])) rfl (F := (1008, [(3, .int (nI i)), (2, .ref 542), (1, .ref 0), (0, .retAddr 2)], [.retAddr 2, .ref 542], h1, n1, cs, ss)) rfl hcs hss ?_
  refine lx_step C (en := (1008, .iload_n 3, 1, (0, 0, 0, 0), [])) rfl (F := (1009, [(3, .int (nI i)), (2, .ref 542), (1, .ref 0), (0, .retAddr 2)], [.int (nI i), .retAddr 2, .ref 542], h1, n1, cs, ss)) rfl hcs hss ?_
  refine lx_step C (en := (1009, .iconst 1, 1, (0, 0, 0, 0), [])) rfl (F := (1010, [(3, .int (nI i)), (2, .ref 542), (1, .ref 0), (0, .retAddr 2)], [.int (Int32.ofInt 1), .int (nI i), .retAddr 2, .ref 542], h1, n1, cs, ss)) rfl hcs hss ?_
  refine lx_step C (en := (1010, .iadd, 1, (0, 0, 0, 0), [])) rfl (F := (1011, [(3, .int (nI i)), (2, .ref 542), (1, .ref 0), (0, .retAddr 2)], [.int ((nI i) + (Int32.ofInt 1)), .retAddr 2, .ref 542], h1, n1, cs, ss)) rfl hcs hss ?_
  refine lx_at C (by omega) (by omega) (lx_ok (meth := meth) (en := (1011, .iaload, 1, (0, 0, 0, 0), [])) rfl).1 ?_
  obtain ⟨fs2, hr2⟩ := ht_m hI1.1
  refine lo_call C hI1 (pb_X11_habit H hI1.1 (xs (((nI i) + (Int32.ofInt 1))).toNatClampNeg)) (by decide +kernel) rfl (lo_inv mi_X11_habit rfl hr2 rfl) ⟨rfl, rfl⟩ (fun x2 h2 n2 hI2 => ?_)
  refine lx_step C (en := (1015, .pop, 1, (0, 0, 0, 0), [])) rfl (F := (1016, [(3, .int (nI i)), (2, .ref 542), (1, .ref 0), (0, .retAddr 2)], [], h2, n2, cs, ss)) rfl hcs hss ?_
  refine lx_step C (en := (1016, .goto 157, 3, (0, 0, 0, 0), [])) rfl (F := (1173, [(3, .int (nI i)), (2, .ref 542), (1, .ref 0), (0, .retAddr 2)], [], h2, n2, cs, ss)) rfl hcs hss ?_
  exact kk h2 n2 cs ss hI2
theorem op_29 (C : lx_C G p s m meth c b L xs) (H : ab_Hand l G) (H2 : ab_Hand2 l G) (hi : i + 5 ≤ L) (hL : L ≤ 2560) (hI : lx_I h n cs ss) (kk : ∀ (h' : ax_H) (n' cs' ss' : Nat), lx_I h' n' cs' ss' → lx_W G p l e s m below meth c b (1173, [(3, .int (nI i)), (2, .ref 542), (1, .ref 0), (0, .retAddr 2)], [], h', n', cs', ss')) : lx_W G p l e s m below meth c b (1019, [(3, .int (nI i)), (2, .ref 542), (1, .ref 0), (0, .retAddr 2)], [], h, n, cs, ss) := by
  obtain ⟨hcs, hss⟩ := lx_I_le hI
  have ix1 : (nI i + Int32.ofInt 1).toInt = (i : Int) + 1 := lo_ix hi hL 1 (by decide)
  have ix2 : (nI i + Int32.ofInt 2).toInt = (i : Int) + 2 := lo_ix hi hL 2 (by decide)
  have ix3 : (nI i + Int32.ofInt 3).toInt = (i : Int) + 3 := lo_ix hi hL 3 (by decide)
  have ix4 : (nI i + Int32.ofInt 4).toInt = (i : Int) + 4 := lo_ix hi hL 4 (by decide)
  refine lx_step C (en := (1019, .aload_n 1, 1, (0, 0, 0, 0), [])) rfl (F := (1020, [(3, .int (nI i)), (2, .ref 542), (1, .ref 0), (0, .retAddr 2)], [.ref 0], h, n, cs, ss)) rfl hcs hss ?_
  refine lx_step C (en := (1020, .aload_n 0, 1, (0, 0, 0, 0), [])) rfl (F := (1021, [(3, .int (nI i)), (2, .ref 542), (1, .ref 0), (0, .retAddr 2)], [.retAddr 2, .ref 0], h, n, cs, ss)) rfl hcs hss ?_
  refine lx_step C (en := (1021, .iload_n 3, 1, (0, 0, 0, 0), [])) rfl (F := (1022, [(3, .int (nI i)), (2, .ref 542), (1, .ref 0), (0, .retAddr 2)], [.int (nI i), .retAddr 2, .ref 0], h, n, cs, ss)) rfl hcs hss ?_
  refine lx_step C (en := (1022, .iconst 1, 1, (0, 0, 0, 0), [])) rfl (F := (1023, [(3, .int (nI i)), (2, .ref 542), (1, .ref 0), (0, .retAddr 2)], [.int (Int32.ofInt 1), .int (nI i), .retAddr 2, .ref 0], h, n, cs, ss)) rfl hcs hss ?_
  refine lx_step C (en := (1023, .iadd, 1, (0, 0, 0, 0), [])) rfl (F := (1024, [(3, .int (nI i)), (2, .ref 542), (1, .ref 0), (0, .retAddr 2)], [.int ((nI i) + (Int32.ofInt 1)), .retAddr 2, .ref 0], h, n, cs, ss)) rfl hcs hss ?_
  refine lx_at C (by omega) (by omega) (lx_ok (meth := meth) (en := (1024, .iaload, 1, (0, 0, 0, 0), [])) rfl).1 ?_
  obtain ⟨fs1, hr1⟩ := ht_x hI.1
  refine lo_call C hI (pb_X10_hands H hI.1 (xs (((nI i) + (Int32.ofInt 1))).toNatClampNeg)) (by decide +kernel) rfl (lo_inv mi_X10_hands rfl hr1 rfl) ⟨rfl, rfl⟩ (fun x1 h1 n1 hI1 => ?_)
  refine lx_step C (en := (1028, .pop, 1, (0, 0, 0, 0), [])) rfl (F := (1029, [(3, .int (nI i)), (2, .ref 542), (1, .ref 0), (0, .retAddr 2)], [], h1, n1, cs, ss)) rfl hcs hss ?_
  refine lx_step C (en := (1029, .aload_n 2, 1, (0, 0, 0, 0), [])) rfl (F := (1030, [(3, .int (nI i)), (2, .ref 542), (1, .ref 0), (0, .retAddr 2)], [.ref 542], h1, n1, cs, ss)) rfl hcs hss ?_
  refine lx_step C (en := (1030, .aload_n 0, 1, (0, 0, 0, 0), [])) rfl (F := (1031, [(3, .int (nI i)), (2, .ref 542), (1, .ref 0), (0, .retAddr 2)], [.retAddr 2, .ref 542], h1, n1, cs, ss)) rfl hcs hss ?_
  refine lx_step C (en := (1031, .iload_n 3, 1, (0, 0, 0, 0), [])) rfl (F := (1032, [(3, .int (nI i)), (2, .ref 542), (1, .ref 0), (0, .retAddr 2)], [.int (nI i), .retAddr 2, .ref 542], h1, n1, cs, ss)) rfl hcs hss ?_
  refine lx_step C (en := (1032, .iconst 1, 1, (0, 0, 0, 0), [])) rfl (F := (1033, [(3, .int (nI i)), (2, .ref 542), (1, .ref 0), (0, .retAddr 2)], [.int (Int32.ofInt 1), .int (nI i), .retAddr 2, .ref 542], h1, n1, cs, ss)) rfl hcs hss ?_
  refine lx_step C (en := (1033, .iadd, 1, (0, 0, 0, 0), [])) rfl (F := (1034, [(3, .int (nI i)), (2, .ref 542), (1, .ref 0), (0, .retAddr 2)], [.int ((nI i) + (Int32.ofInt 1)), .retAddr 2, .ref 542], h1, n1, cs, ss)) rfl hcs hss ?_
  refine lx_at C (by omega) (by omega) (lx_ok (meth := meth) (en := (1034, .iaload, 1, (0, 0, 0, 0), [])) rfl).1 ?_
  obtain ⟨fs2, hr2⟩ := ht_m hI1.1
  refine lo_call C hI1 (pb_X11_hands H hI1.1 (xs (((nI i) + (Int32.ofInt 1))).toNatClampNeg)) (by decide +kernel) rfl (lo_inv mi_X11_hands rfl hr2 rfl) ⟨rfl, rfl⟩ (fun x2 h2 n2 hI2 => ?_)
  refine lx_step C (en := (1038, .pop, 1, (0, 0, 0, 0), [])) rfl (F := (1039, [(3, .int (nI i)), (2, .ref 542), (1, .ref 0), (0, .retAddr 2)], [], h2, n2, cs, ss)) rfl hcs hss ?_
  refine lx_step C (en := (1039, .goto 134, 3, (0, 0, 0, 0), [])) rfl (F := (1173, [(3, .int (nI i)), (2, .ref 542), (1, .ref 0), (0, .retAddr 2)], [], h2, n2, cs, ss)) rfl hcs hss ?_
  exact kk h2 n2 cs ss hI2
theorem op_30 (C : lx_C G p s m meth c b L xs) (H : ab_Hand l G) (H2 : ab_Hand2 l G) (hi : i + 5 ≤ L) (hL : L ≤ 2560) (hI : lx_I h n cs ss) (kk : ∀ (h' : ax_H) (n' cs' ss' : Nat), lx_I h' n' cs' ss' → lx_W G p l e s m below meth c b (1173, [(3, .int (nI i)), (2, .ref 542), (1, .ref 0), (0, .retAddr 2)], [], h', n', cs', ss')) : lx_W G p l e s m below meth c b (1042, [(3, .int (nI i)), (2, .ref 542), (1, .ref 0), (0, .retAddr 2)], [], h, n, cs, ss) := by
  obtain ⟨hcs, hss⟩ := lx_I_le hI
  have ix1 : (nI i + Int32.ofInt 1).toInt = (i : Int) + 1 := lo_ix hi hL 1 (by decide)
  have ix2 : (nI i + Int32.ofInt 2).toInt = (i : Int) + 2 := lo_ix hi hL 2 (by decide)
  have ix3 : (nI i + Int32.ofInt 3).toInt = (i : Int) + 3 := lo_ix hi hL 3 (by decide)
  have ix4 : (nI i + Int32.ofInt 4).toInt = (i : Int) + 4 := lo_ix hi hL 4 (by decide)
  refine lx_step C (en := (1042, .aload_n 1, 1, (0, 0, 0, 0), [])) rfl (F := (1043, [(3, .int (nI i)), (2, .ref 542), (1, .ref 0), (0, .retAddr 2)], [.ref 0], h, n, cs, ss)) rfl hcs hss ?_
  refine lx_step C (en := (1043, .aload_n 0, 1, (0, 0, 0, 0), [])) rfl (F := (1044, [(3, .int (nI i)), (2, .ref 542), (1, .ref 0), (0, .retAddr 2)], [.retAddr 2, .ref 0], h, n, cs, ss)) rfl hcs hss ?_
  refine lx_step C (en := (1044, .iload_n 3, 1, (0, 0, 0, 0), [])) rfl (F := (1045, [(3, .int (nI i)), (2, .ref 542), (1, .ref 0), (0, .retAddr 2)], [.int (nI i), .retAddr 2, .ref 0], h, n, cs, ss)) rfl hcs hss ?_
  refine lx_step C (en := (1045, .iconst 1, 1, (0, 0, 0, 0), [])) rfl (F := (1046, [(3, .int (nI i)), (2, .ref 542), (1, .ref 0), (0, .retAddr 2)], [.int (Int32.ofInt 1), .int (nI i), .retAddr 2, .ref 0], h, n, cs, ss)) rfl hcs hss ?_
  refine lx_step C (en := (1046, .iadd, 1, (0, 0, 0, 0), [])) rfl (F := (1047, [(3, .int (nI i)), (2, .ref 542), (1, .ref 0), (0, .retAddr 2)], [.int ((nI i) + (Int32.ofInt 1)), .retAddr 2, .ref 0], h, n, cs, ss)) rfl hcs hss ?_
  refine lx_at C (by omega) (by omega) (lx_ok (meth := meth) (en := (1047, .iaload, 1, (0, 0, 0, 0), [])) rfl).1 ?_
  refine lx_step C (en := (1048, .aload_n 0, 1, (0, 0, 0, 0), [])) rfl (F := (1049, [(3, .int (nI i)), (2, .ref 542), (1, .ref 0), (0, .retAddr 2)], [.retAddr 2, .int (xs (((nI i) + (Int32.ofInt 1))).toNatClampNeg), .ref 0], h, n, cs, ss)) rfl hcs hss ?_
  refine lx_step C (en := (1049, .iload_n 3, 1, (0, 0, 0, 0), [])) rfl (F := (1050, [(3, .int (nI i)), (2, .ref 542), (1, .ref 0), (0, .retAddr 2)], [.int (nI i), .retAddr 2, .int (xs (((nI i) + (Int32.ofInt 1))).toNatClampNeg), .ref 0], h, n, cs, ss)) rfl hcs hss ?_
  refine lx_step C (en := (1050, .iconst 2, 1, (0, 0, 0, 0), [])) rfl (F := (1051, [(3, .int (nI i)), (2, .ref 542), (1, .ref 0), (0, .retAddr 2)], [.int (Int32.ofInt 2), .int (nI i), .retAddr 2, .int (xs (((nI i) + (Int32.ofInt 1))).toNatClampNeg), .ref 0], h, n, cs, ss)) rfl hcs hss ?_
  refine lx_step C (en := (1051, .iadd, 1, (0, 0, 0, 0), [])) rfl (F := (1052, [(3, .int (nI i)), (2, .ref 542), (1, .ref 0), (0, .retAddr 2)], [.int ((nI i) + (Int32.ofInt 2)), .retAddr 2, .int (xs (((nI i) + (Int32.ofInt 1))).toNatClampNeg), .ref 0], h, n, cs, ss)) rfl hcs hss ?_
  refine lx_at C (by omega) (by omega) (lx_ok (meth := meth) (en := (1052, .iaload, 1, (0, 0, 0, 0), [])) rfl).1 ?_
  obtain ⟨x1, h1, n1, h2, n2, hM1, hM2, hT1, hI2⟩ := lx_ln H hI ((xs (((nI i) + (Int32.ofInt 1))).toNatClampNeg)) ((xs (((nI i) + (Int32.ofInt 2))).toNatClampNeg))
  obtain ⟨fs1, hr1⟩ := ht_x hI.1
  obtain ⟨fs2, hr2⟩ := ht_m hT1
  refine lx_call C mt_ok (lx_ok (en := (1053, .invokevirtual 142, 3, (3, 132, 10, 0), [999, 1000, 998])) rfl) (lo_inv mi_X10_line rfl hr1 rfl) hM1 hcs hss ?_
  show lx_W G p l e s m below meth c b (1056, [(3, .int (nI i)), (2, .ref 542), (1, .ref 0), (0, .retAddr 2)], [.int x1], h1, n1, cs, ss)
  refine lx_step C (en := (1056, .pop, 1, (0, 0, 0, 0), [])) rfl (F := (1057, [(3, .int (nI i)), (2, .ref 542), (1, .ref 0), (0, .retAddr 2)], [], h1, n1, cs, ss)) rfl hcs hss ?_
  refine lx_step C (en := (1057, .aload_n 2, 1, (0, 0, 0, 0), [])) rfl (F := (1058, [(3, .int (nI i)), (2, .ref 542), (1, .ref 0), (0, .retAddr 2)], [.ref 542], h1, n1, cs, ss)) rfl hcs hss ?_
  refine lx_step C (en := (1058, .aload_n 0, 1, (0, 0, 0, 0), [])) rfl (F := (1059, [(3, .int (nI i)), (2, .ref 542), (1, .ref 0), (0, .retAddr 2)], [.retAddr 2, .ref 542], h1, n1, cs, ss)) rfl hcs hss ?_
  refine lx_step C (en := (1059, .iload_n 3, 1, (0, 0, 0, 0), [])) rfl (F := (1060, [(3, .int (nI i)), (2, .ref 542), (1, .ref 0), (0, .retAddr 2)], [.int (nI i), .retAddr 2, .ref 542], h1, n1, cs, ss)) rfl hcs hss ?_
  refine lx_step C (en := (1060, .iconst 1, 1, (0, 0, 0, 0), [])) rfl (F := (1061, [(3, .int (nI i)), (2, .ref 542), (1, .ref 0), (0, .retAddr 2)], [.int (Int32.ofInt 1), .int (nI i), .retAddr 2, .ref 542], h1, n1, cs, ss)) rfl hcs hss ?_
  refine lx_step C (en := (1061, .iadd, 1, (0, 0, 0, 0), [])) rfl (F := (1062, [(3, .int (nI i)), (2, .ref 542), (1, .ref 0), (0, .retAddr 2)], [.int ((nI i) + (Int32.ofInt 1)), .retAddr 2, .ref 542], h1, n1, cs, ss)) rfl hcs hss ?_
  refine lx_at C (by omega) (by omega) (lx_ok (meth := meth) (en := (1062, .iaload, 1, (0, 0, 0, 0), [])) rfl).1 ?_
  refine lx_step C (en := (1063, .aload_n 0, 1, (0, 0, 0, 0), [])) rfl (F := (1064, [(3, .int (nI i)), (2, .ref 542), (1, .ref 0), (0, .retAddr 2)], [.retAddr 2, .int (xs (((nI i) + (Int32.ofInt 1))).toNatClampNeg), .ref 542], h1, n1, cs, ss)) rfl hcs hss ?_
  refine lx_step C (en := (1064, .iload_n 3, 1, (0, 0, 0, 0), [])) rfl (F := (1065, [(3, .int (nI i)), (2, .ref 542), (1, .ref 0), (0, .retAddr 2)], [.int (nI i), .retAddr 2, .int (xs (((nI i) + (Int32.ofInt 1))).toNatClampNeg), .ref 542], h1, n1, cs, ss)) rfl hcs hss ?_
  refine lx_step C (en := (1065, .iconst 2, 1, (0, 0, 0, 0), [])) rfl (F := (1066, [(3, .int (nI i)), (2, .ref 542), (1, .ref 0), (0, .retAddr 2)], [.int (Int32.ofInt 2), .int (nI i), .retAddr 2, .int (xs (((nI i) + (Int32.ofInt 1))).toNatClampNeg), .ref 542], h1, n1, cs, ss)) rfl hcs hss ?_
  refine lx_step C (en := (1066, .iadd, 1, (0, 0, 0, 0), [])) rfl (F := (1067, [(3, .int (nI i)), (2, .ref 542), (1, .ref 0), (0, .retAddr 2)], [.int ((nI i) + (Int32.ofInt 2)), .retAddr 2, .int (xs (((nI i) + (Int32.ofInt 1))).toNatClampNeg), .ref 542], h1, n1, cs, ss)) rfl hcs hss ?_
  refine lx_at C (by omega) (by omega) (lx_ok (meth := meth) (en := (1067, .iaload, 1, (0, 0, 0, 0), [])) rfl).1 ?_
  refine lx_call C mt_ok (lx_ok (en := (1068, .invokevirtual 145, 3, (3, 220, 11, 0), [1543, 1544, 1542])) rfl) (lo_inv mi_X11_line rfl hr2 rfl) hM2 hcs hss ?_
  show lx_W G p l e s m below meth c b (1071, [(3, .int (nI i)), (2, .ref 542), (1, .ref 0), (0, .retAddr 2)], [.int x1], h2, n2, cs, ss)
  refine lx_step C (en := (1071, .pop, 1, (0, 0, 0, 0), [])) rfl (F := (1072, [(3, .int (nI i)), (2, .ref 542), (1, .ref 0), (0, .retAddr 2)], [], h2, n2, cs, ss)) rfl hcs hss ?_
  refine lx_step C (en := (1072, .goto 101, 3, (0, 0, 0, 0), [])) rfl (F := (1173, [(3, .int (nI i)), (2, .ref 542), (1, .ref 0), (0, .retAddr 2)], [], h2, n2, cs, ss)) rfl hcs hss ?_
  exact kk h2 n2 cs ss hI2
theorem op_31 (C : lx_C G p s m meth c b L xs) (H : ab_Hand l G) (H2 : ab_Hand2 l G) (hi : i + 5 ≤ L) (hL : L ≤ 2560) (hI : lx_I h n cs ss) (kk : ∀ (h' : ax_H) (n' cs' ss' : Nat), lx_I h' n' cs' ss' → lx_W G p l e s m below meth c b (1173, [(3, .int (nI i)), (2, .ref 542), (1, .ref 0), (0, .retAddr 2)], [], h', n', cs', ss')) : lx_W G p l e s m below meth c b (1075, [(3, .int (nI i)), (2, .ref 542), (1, .ref 0), (0, .retAddr 2)], [], h, n, cs, ss) := by
  obtain ⟨hcs, hss⟩ := lx_I_le hI
  have ix1 : (nI i + Int32.ofInt 1).toInt = (i : Int) + 1 := lo_ix hi hL 1 (by decide)
  have ix2 : (nI i + Int32.ofInt 2).toInt = (i : Int) + 2 := lo_ix hi hL 2 (by decide)
  have ix3 : (nI i + Int32.ofInt 3).toInt = (i : Int) + 3 := lo_ix hi hL 3 (by decide)
  have ix4 : (nI i + Int32.ofInt 4).toInt = (i : Int) + 4 := lo_ix hi hL 4 (by decide)
  refine lx_step C (en := (1075, .aload_n 1, 1, (0, 0, 0, 0), [])) rfl (F := (1076, [(3, .int (nI i)), (2, .ref 542), (1, .ref 0), (0, .retAddr 2)], [.ref 0], h, n, cs, ss)) rfl hcs hss ?_
  obtain ⟨x1, h1, n1, h2, n2, hM1, hM2, hT1, hI2⟩ := lx_tr H hI 
  obtain ⟨fs1, hr1⟩ := ht_x hI.1
  obtain ⟨fs2, hr2⟩ := ht_m hT1
  refine lx_call C mt_ok (lx_ok (en := (1076, .invokevirtual 146, 3, (3, 133, 10, 0), [1009, 1010, 1008])) rfl) (lo_inv mi_X10_tear rfl hr1 rfl) hM1 hcs hss ?_
  show lx_W G p l e s m below meth c b (1079, [(3, .int (nI i)), (2, .ref 542), (1, .ref 0), (0, .retAddr 2)], [.int x1], h1, n1, cs, ss)
  refine lx_step C (en := (1079, .pop, 1, (0, 0, 0, 0), [])) rfl (F := (1080, [(3, .int (nI i)), (2, .ref 542), (1, .ref 0), (0, .retAddr 2)], [], h1, n1, cs, ss)) rfl hcs hss ?_
  refine lx_step C (en := (1080, .aload_n 2, 1, (0, 0, 0, 0), [])) rfl (F := (1081, [(3, .int (nI i)), (2, .ref 542), (1, .ref 0), (0, .retAddr 2)], [.ref 542], h1, n1, cs, ss)) rfl hcs hss ?_
  refine lx_call C mt_ok (lx_ok (en := (1081, .invokevirtual 149, 3, (3, 222, 11, 0), [1551, 1552, 1550])) rfl) (lo_inv mi_X11_tear rfl hr2 rfl) hM2 hcs hss ?_
  show lx_W G p l e s m below meth c b (1084, [(3, .int (nI i)), (2, .ref 542), (1, .ref 0), (0, .retAddr 2)], [.int x1], h2, n2, cs, ss)
  refine lx_step C (en := (1084, .pop, 1, (0, 0, 0, 0), [])) rfl (F := (1085, [(3, .int (nI i)), (2, .ref 542), (1, .ref 0), (0, .retAddr 2)], [], h2, n2, cs, ss)) rfl hcs hss ?_
  refine lx_step C (en := (1085, .goto 88, 3, (0, 0, 0, 0), [])) rfl (F := (1173, [(3, .int (nI i)), (2, .ref 542), (1, .ref 0), (0, .retAddr 2)], [], h2, n2, cs, ss)) rfl hcs hss ?_
  exact kk h2 n2 cs ss hI2
theorem op_32 (C : lx_C G p s m meth c b L xs) (H : ab_Hand l G) (H2 : ab_Hand2 l G) (hi : i + 5 ≤ L) (hL : L ≤ 2560) (hI : lx_I h n cs ss) (kk : ∀ (h' : ax_H) (n' cs' ss' : Nat), lx_I h' n' cs' ss' → lx_W G p l e s m below meth c b (1173, [(3, .int (nI i)), (2, .ref 542), (1, .ref 0), (0, .retAddr 2)], [], h', n', cs', ss')) : lx_W G p l e s m below meth c b (1088, [(3, .int (nI i)), (2, .ref 542), (1, .ref 0), (0, .retAddr 2)], [], h, n, cs, ss) := by
  obtain ⟨hcs, hss⟩ := lx_I_le hI
  have ix1 : (nI i + Int32.ofInt 1).toInt = (i : Int) + 1 := lo_ix hi hL 1 (by decide)
  have ix2 : (nI i + Int32.ofInt 2).toInt = (i : Int) + 2 := lo_ix hi hL 2 (by decide)
  have ix3 : (nI i + Int32.ofInt 3).toInt = (i : Int) + 3 := lo_ix hi hL 3 (by decide)
  have ix4 : (nI i + Int32.ofInt 4).toInt = (i : Int) + 4 := lo_ix hi hL 4 (by decide)
  refine lx_step C (en := (1088, .aload_n 1, 1, (0, 0, 0, 0), [])) rfl (F := (1089, [(3, .int (nI i)), (2, .ref 542), (1, .ref 0), (0, .retAddr 2)], [.ref 0], h, n, cs, ss)) rfl hcs hss ?_
  obtain ⟨fs1, hr1⟩ := ht_x hI.1
  refine lo_call C hI (pb_X10_wrong H hI.1 ) (by decide +kernel) rfl (lo_inv mi_X10_wrong rfl hr1 rfl) ⟨rfl, rfl⟩ (fun x1 h1 n1 hI1 => ?_)
  refine lx_step C (en := (1092, .pop, 1, (0, 0, 0, 0), [])) rfl (F := (1093, [(3, .int (nI i)), (2, .ref 542), (1, .ref 0), (0, .retAddr 2)], [], h1, n1, cs, ss)) rfl hcs hss ?_
  refine lx_step C (en := (1093, .aload_n 2, 1, (0, 0, 0, 0), [])) rfl (F := (1094, [(3, .int (nI i)), (2, .ref 542), (1, .ref 0), (0, .retAddr 2)], [.ref 542], h1, n1, cs, ss)) rfl hcs hss ?_
  obtain ⟨fs2, hr2⟩ := ht_m hI1.1
  refine lo_call C hI1 (pb_X11_wrong H hI1.1 ) (by decide +kernel) rfl (lo_inv mi_X11_wrong rfl hr2 rfl) ⟨rfl, rfl⟩ (fun x2 h2 n2 hI2 => ?_)
  refine lx_step C (en := (1097, .pop, 1, (0, 0, 0, 0), [])) rfl (F := (1098, [(3, .int (nI i)), (2, .ref 542), (1, .ref 0), (0, .retAddr 2)], [], h2, n2, cs, ss)) rfl hcs hss ?_
  refine lx_step C (en := (1098, .goto 75, 3, (0, 0, 0, 0), [])) rfl (F := (1173, [(3, .int (nI i)), (2, .ref 542), (1, .ref 0), (0, .retAddr 2)], [], h2, n2, cs, ss)) rfl hcs hss ?_
  exact kk h2 n2 cs ss hI2
theorem op_33 (C : lx_C G p s m meth c b L xs) (H : ab_Hand l G) (H2 : ab_Hand2 l G) (hi : i + 5 ≤ L) (hL : L ≤ 2560) (hI : lx_I h n cs ss) (kk : ∀ (h' : ax_H) (n' cs' ss' : Nat), lx_I h' n' cs' ss' → lx_W G p l e s m below meth c b (1173, [(3, .int (nI i)), (2, .ref 542), (1, .ref 0), (0, .retAddr 2)], [], h', n', cs', ss')) : lx_W G p l e s m below meth c b (1101, [(3, .int (nI i)), (2, .ref 542), (1, .ref 0), (0, .retAddr 2)], [], h, n, cs, ss) := by
  obtain ⟨hcs, hss⟩ := lx_I_le hI
  have ix1 : (nI i + Int32.ofInt 1).toInt = (i : Int) + 1 := lo_ix hi hL 1 (by decide)
  have ix2 : (nI i + Int32.ofInt 2).toInt = (i : Int) + 2 := lo_ix hi hL 2 (by decide)
  have ix3 : (nI i + Int32.ofInt 3).toInt = (i : Int) + 3 := lo_ix hi hL 3 (by decide)
  have ix4 : (nI i + Int32.ofInt 4).toInt = (i : Int) + 4 := lo_ix hi hL 4 (by decide)
  refine lx_step C (en := (1101, .aload_n 1, 1, (0, 0, 0, 0), [])) rfl (F := (1102, [(3, .int (nI i)), (2, .ref 542), (1, .ref 0), (0, .retAddr 2)], [.ref 0], h, n, cs, ss)) rfl hcs hss ?_
  obtain ⟨fs1, hr1⟩ := ht_x hI.1
  refine lo_call C hI (pb_X10_mended H hI.1 ) (by decide +kernel) rfl (lo_inv mi_X10_mended rfl hr1 rfl) ⟨rfl, rfl⟩ (fun x1 h1 n1 hI1 => ?_)
  refine lx_step C (en := (1105, .pop, 1, (0, 0, 0, 0), [])) rfl (F := (1106, [(3, .int (nI i)), (2, .ref 542), (1, .ref 0), (0, .retAddr 2)], [], h1, n1, cs, ss)) rfl hcs hss ?_
  refine lx_step C (en := (1106, .aload_n 2, 1, (0, 0, 0, 0), [])) rfl (F := (1107, [(3, .int (nI i)), (2, .ref 542), (1, .ref 0), (0, .retAddr 2)], [.ref 542], h1, n1, cs, ss)) rfl hcs hss ?_
  obtain ⟨fs2, hr2⟩ := ht_m hI1.1
  refine lo_call C hI1 (pb_X11_mended H hI1.1 ) (by decide +kernel) rfl (lo_inv mi_X11_mended rfl hr2 rfl) ⟨rfl, rfl⟩ (fun x2 h2 n2 hI2 => ?_)
  refine lx_step C (en := (1110, .pop, 1, (0, 0, 0, 0), [])) rfl (F := (1111, [(3, .int (nI i)), (2, .ref 542), (1, .ref 0), (0, .retAddr 2)], [], h2, n2, cs, ss)) rfl hcs hss ?_
  refine lx_step C (en := (1111, .goto 62, 3, (0, 0, 0, 0), [])) rfl (F := (1173, [(3, .int (nI i)), (2, .ref 542), (1, .ref 0), (0, .retAddr 2)], [], h2, n2, cs, ss)) rfl hcs hss ?_
  exact kk h2 n2 cs ss hI2
theorem op_34 (C : lx_C G p s m meth c b L xs) (H : ab_Hand l G) (H2 : ab_Hand2 l G) (hi : i + 5 ≤ L) (hL : L ≤ 2560) (hI : lx_I h n cs ss) (kk : ∀ (h' : ax_H) (n' cs' ss' : Nat), lx_I h' n' cs' ss' → lx_W G p l e s m below meth c b (1173, [(3, .int (nI i)), (2, .ref 542), (1, .ref 0), (0, .retAddr 2)], [], h', n', cs', ss')) : lx_W G p l e s m below meth c b (1114, [(3, .int (nI i)), (2, .ref 542), (1, .ref 0), (0, .retAddr 2)], [], h, n, cs, ss) := by
  obtain ⟨hcs, hss⟩ := lx_I_le hI
  have ix1 : (nI i + Int32.ofInt 1).toInt = (i : Int) + 1 := lo_ix hi hL 1 (by decide)
  have ix2 : (nI i + Int32.ofInt 2).toInt = (i : Int) + 2 := lo_ix hi hL 2 (by decide)
  have ix3 : (nI i + Int32.ofInt 3).toInt = (i : Int) + 3 := lo_ix hi hL 3 (by decide)
  have ix4 : (nI i + Int32.ofInt 4).toInt = (i : Int) + 4 := lo_ix hi hL 4 (by decide)
  refine lx_step C (en := (1114, .aload_n 1, 1, (0, 0, 0, 0), [])) rfl (F := (1115, [(3, .int (nI i)), (2, .ref 542), (1, .ref 0), (0, .retAddr 2)], [.ref 0], h, n, cs, ss)) rfl hcs hss ?_
  refine lx_step C (en := (1115, .aload_n 0, 1, (0, 0, 0, 0), [])) rfl (F := (1116, [(3, .int (nI i)), (2, .ref 542), (1, .ref 0), (0, .retAddr 2)], [.retAddr 2, .ref 0], h, n, cs, ss)) rfl hcs hss ?_
  refine lx_step C (en := (1116, .iload_n 3, 1, (0, 0, 0, 0), [])) rfl (F := (1117, [(3, .int (nI i)), (2, .ref 542), (1, .ref 0), (0, .retAddr 2)], [.int (nI i), .retAddr 2, .ref 0], h, n, cs, ss)) rfl hcs hss ?_
  refine lx_step C (en := (1117, .iconst 1, 1, (0, 0, 0, 0), [])) rfl (F := (1118, [(3, .int (nI i)), (2, .ref 542), (1, .ref 0), (0, .retAddr 2)], [.int (Int32.ofInt 1), .int (nI i), .retAddr 2, .ref 0], h, n, cs, ss)) rfl hcs hss ?_
  refine lx_step C (en := (1118, .iadd, 1, (0, 0, 0, 0), [])) rfl (F := (1119, [(3, .int (nI i)), (2, .ref 542), (1, .ref 0), (0, .retAddr 2)], [.int ((nI i) + (Int32.ofInt 1)), .retAddr 2, .ref 0], h, n, cs, ss)) rfl hcs hss ?_
  refine lx_at C (by omega) (by omega) (lx_ok (meth := meth) (en := (1119, .iaload, 1, (0, 0, 0, 0), [])) rfl).1 ?_
  obtain ⟨fs1, hr1⟩ := ht_x hI.1
  refine lo_call C hI (pb_X10_slip H hI.1 (xs (((nI i) + (Int32.ofInt 1))).toNatClampNeg)) (by decide +kernel) rfl (lo_inv mi_X10_slip rfl hr1 rfl) ⟨rfl, rfl⟩ (fun x1 h1 n1 hI1 => ?_)
  refine lx_step C (en := (1123, .pop, 1, (0, 0, 0, 0), [])) rfl (F := (1124, [(3, .int (nI i)), (2, .ref 542), (1, .ref 0), (0, .retAddr 2)], [], h1, n1, cs, ss)) rfl hcs hss ?_
  refine lx_step C (en := (1124, .aload_n 2, 1, (0, 0, 0, 0), [])) rfl (F := (1125, [(3, .int (nI i)), (2, .ref 542), (1, .ref 0), (0, .retAddr 2)], [.ref 542], h1, n1, cs, ss)) rfl hcs hss ?_
  refine lx_step C (en := (1125, .aload_n 0, 1, (0, 0, 0, 0), [])) rfl (F := (1126, [(3, .int (nI i)), (2, .ref 542), (1, .ref 0), (0, .retAddr 2)], [.retAddr 2, .ref 542], h1, n1, cs, ss)) rfl hcs hss ?_
  refine lx_step C (en := (1126, .iload_n 3, 1, (0, 0, 0, 0), [])) rfl (F := (1127, [(3, .int (nI i)), (2, .ref 542), (1, .ref 0), (0, .retAddr 2)], [.int (nI i), .retAddr 2, .ref 542], h1, n1, cs, ss)) rfl hcs hss ?_
  refine lx_step C (en := (1127, .iconst 1, 1, (0, 0, 0, 0), [])) rfl (F := (1128, [(3, .int (nI i)), (2, .ref 542), (1, .ref 0), (0, .retAddr 2)], [.int (Int32.ofInt 1), .int (nI i), .retAddr 2, .ref 542], h1, n1, cs, ss)) rfl hcs hss ?_
  refine lx_step C (en := (1128, .iadd, 1, (0, 0, 0, 0), [])) rfl (F := (1129, [(3, .int (nI i)), (2, .ref 542), (1, .ref 0), (0, .retAddr 2)], [.int ((nI i) + (Int32.ofInt 1)), .retAddr 2, .ref 542], h1, n1, cs, ss)) rfl hcs hss ?_
  refine lx_at C (by omega) (by omega) (lx_ok (meth := meth) (en := (1129, .iaload, 1, (0, 0, 0, 0), [])) rfl).1 ?_
  obtain ⟨fs2, hr2⟩ := ht_m hI1.1
  refine lo_call C hI1 (pb_X11_slip H hI1.1 (xs (((nI i) + (Int32.ofInt 1))).toNatClampNeg)) (by decide +kernel) rfl (lo_inv mi_X11_slip rfl hr2 rfl) ⟨rfl, rfl⟩ (fun x2 h2 n2 hI2 => ?_)
  refine lx_step C (en := (1133, .pop, 1, (0, 0, 0, 0), [])) rfl (F := (1134, [(3, .int (nI i)), (2, .ref 542), (1, .ref 0), (0, .retAddr 2)], [], h2, n2, cs, ss)) rfl hcs hss ?_
  refine lx_step C (en := (1134, .goto 39, 3, (0, 0, 0, 0), [])) rfl (F := (1173, [(3, .int (nI i)), (2, .ref 542), (1, .ref 0), (0, .retAddr 2)], [], h2, n2, cs, ss)) rfl hcs hss ?_
  exact kk h2 n2 cs ss hI2
theorem op_35 (C : lx_C G p s m meth c b L xs) (H : ab_Hand l G) (H2 : ab_Hand2 l G) (hi : i + 5 ≤ L) (hL : L ≤ 2560) (hI : lx_I h n cs ss) (kk : ∀ (h' : ax_H) (n' cs' ss' : Nat), lx_I h' n' cs' ss' → lx_W G p l e s m below meth c b (1173, [(3, .int (nI i)), (2, .ref 542), (1, .ref 0), (0, .retAddr 2)], [], h', n', cs', ss')) : lx_W G p l e s m below meth c b (1137, [(3, .int (nI i)), (2, .ref 542), (1, .ref 0), (0, .retAddr 2)], [], h, n, cs, ss) := by
  obtain ⟨hcs, hss⟩ := lx_I_le hI
  have ix1 : (nI i + Int32.ofInt 1).toInt = (i : Int) + 1 := lo_ix hi hL 1 (by decide)
  have ix2 : (nI i + Int32.ofInt 2).toInt = (i : Int) + 2 := lo_ix hi hL 2 (by decide)
  have ix3 : (nI i + Int32.ofInt 3).toInt = (i : Int) + 3 := lo_ix hi hL 3 (by decide)
  have ix4 : (nI i + Int32.ofInt 4).toInt = (i : Int) + 4 := lo_ix hi hL 4 (by decide)
  refine lx_step C (en := (1137, .aload_n 1, 1, (0, 0, 0, 0), [])) rfl (F := (1138, [(3, .int (nI i)), (2, .ref 542), (1, .ref 0), (0, .retAddr 2)], [.ref 0], h, n, cs, ss)) rfl hcs hss ?_
  refine lx_step C (en := (1138, .aload_n 0, 1, (0, 0, 0, 0), [])) rfl (F := (1139, [(3, .int (nI i)), (2, .ref 542), (1, .ref 0), (0, .retAddr 2)], [.retAddr 2, .ref 0], h, n, cs, ss)) rfl hcs hss ?_
  refine lx_step C (en := (1139, .iload_n 3, 1, (0, 0, 0, 0), [])) rfl (F := (1140, [(3, .int (nI i)), (2, .ref 542), (1, .ref 0), (0, .retAddr 2)], [.int (nI i), .retAddr 2, .ref 0], h, n, cs, ss)) rfl hcs hss ?_
  refine lx_step C (en := (1140, .iconst 1, 1, (0, 0, 0, 0), [])) rfl (F := (1141, [(3, .int (nI i)), (2, .ref 542), (1, .ref 0), (0, .retAddr 2)], [.int (Int32.ofInt 1), .int (nI i), .retAddr 2, .ref 0], h, n, cs, ss)) rfl hcs hss ?_
  refine lx_step C (en := (1141, .iadd, 1, (0, 0, 0, 0), [])) rfl (F := (1142, [(3, .int (nI i)), (2, .ref 542), (1, .ref 0), (0, .retAddr 2)], [.int ((nI i) + (Int32.ofInt 1)), .retAddr 2, .ref 0], h, n, cs, ss)) rfl hcs hss ?_
  refine lx_at C (by omega) (by omega) (lx_ok (meth := meth) (en := (1142, .iaload, 1, (0, 0, 0, 0), [])) rfl).1 ?_
  obtain ⟨fs1, hr1⟩ := ht_x hI.1
  refine lo_call C hI (pb_X10_count H hI.1 (xs (((nI i) + (Int32.ofInt 1))).toNatClampNeg)) (by decide +kernel) rfl (lo_inv mi_X10_count rfl hr1 rfl) ⟨rfl, rfl⟩ (fun x1 h1 n1 hI1 => ?_)
  refine lx_step C (en := (1146, .pop, 1, (0, 0, 0, 0), [])) rfl (F := (1147, [(3, .int (nI i)), (2, .ref 542), (1, .ref 0), (0, .retAddr 2)], [], h1, n1, cs, ss)) rfl hcs hss ?_
  refine lx_step C (en := (1147, .aload_n 2, 1, (0, 0, 0, 0), [])) rfl (F := (1148, [(3, .int (nI i)), (2, .ref 542), (1, .ref 0), (0, .retAddr 2)], [.ref 542], h1, n1, cs, ss)) rfl hcs hss ?_
  refine lx_step C (en := (1148, .aload_n 0, 1, (0, 0, 0, 0), [])) rfl (F := (1149, [(3, .int (nI i)), (2, .ref 542), (1, .ref 0), (0, .retAddr 2)], [.retAddr 2, .ref 542], h1, n1, cs, ss)) rfl hcs hss ?_
  refine lx_step C (en := (1149, .iload_n 3, 1, (0, 0, 0, 0), [])) rfl (F := (1150, [(3, .int (nI i)), (2, .ref 542), (1, .ref 0), (0, .retAddr 2)], [.int (nI i), .retAddr 2, .ref 542], h1, n1, cs, ss)) rfl hcs hss ?_
  refine lx_step C (en := (1150, .iconst 1, 1, (0, 0, 0, 0), [])) rfl (F := (1151, [(3, .int (nI i)), (2, .ref 542), (1, .ref 0), (0, .retAddr 2)], [.int (Int32.ofInt 1), .int (nI i), .retAddr 2, .ref 542], h1, n1, cs, ss)) rfl hcs hss ?_
  refine lx_step C (en := (1151, .iadd, 1, (0, 0, 0, 0), [])) rfl (F := (1152, [(3, .int (nI i)), (2, .ref 542), (1, .ref 0), (0, .retAddr 2)], [.int ((nI i) + (Int32.ofInt 1)), .retAddr 2, .ref 542], h1, n1, cs, ss)) rfl hcs hss ?_
  refine lx_at C (by omega) (by omega) (lx_ok (meth := meth) (en := (1152, .iaload, 1, (0, 0, 0, 0), [])) rfl).1 ?_
  obtain ⟨fs2, hr2⟩ := ht_m hI1.1
  refine lo_call C hI1 (pb_X11_count H hI1.1 (xs (((nI i) + (Int32.ofInt 1))).toNatClampNeg)) (by decide +kernel) rfl (lo_inv mi_X11_count rfl hr2 rfl) ⟨rfl, rfl⟩ (fun x2 h2 n2 hI2 => ?_)
  refine lx_step C (en := (1156, .pop, 1, (0, 0, 0, 0), [])) rfl (F := (1157, [(3, .int (nI i)), (2, .ref 542), (1, .ref 0), (0, .retAddr 2)], [], h2, n2, cs, ss)) rfl hcs hss ?_
  refine lx_step C (en := (1157, .goto 16, 3, (0, 0, 0, 0), [])) rfl (F := (1173, [(3, .int (nI i)), (2, .ref 542), (1, .ref 0), (0, .retAddr 2)], [], h2, n2, cs, ss)) rfl hcs hss ?_
  exact kk h2 n2 cs ss hI2
theorem op_36 (C : lx_C G p s m meth c b L xs) (H : ab_Hand l G) (H2 : ab_Hand2 l G) (hi : i + 5 ≤ L) (hL : L ≤ 2560) (hI : lx_I h n cs ss) (kk : ∀ (h' : ax_H) (n' cs' ss' : Nat), lx_I h' n' cs' ss' → lx_W G p l e s m below meth c b (1173, [(3, .int (nI i)), (2, .ref 542), (1, .ref 0), (0, .retAddr 2)], [], h', n', cs', ss')) : lx_W G p l e s m below meth c b (1160, [(3, .int (nI i)), (2, .ref 542), (1, .ref 0), (0, .retAddr 2)], [], h, n, cs, ss) := by
  obtain ⟨hcs, hss⟩ := lx_I_le hI
  have ix1 : (nI i + Int32.ofInt 1).toInt = (i : Int) + 1 := lo_ix hi hL 1 (by decide)
  have ix2 : (nI i + Int32.ofInt 2).toInt = (i : Int) + 2 := lo_ix hi hL 2 (by decide)
  have ix3 : (nI i + Int32.ofInt 3).toInt = (i : Int) + 3 := lo_ix hi hL 3 (by decide)
  have ix4 : (nI i + Int32.ofInt 4).toInt = (i : Int) + 4 := lo_ix hi hL 4 (by decide)
  refine lx_step C (en := (1160, .aload_n 1, 1, (0, 0, 0, 0), [])) rfl (F := (1161, [(3, .int (nI i)), (2, .ref 542), (1, .ref 0), (0, .retAddr 2)], [.ref 0], h, n, cs, ss)) rfl hcs hss ?_
  obtain ⟨fs1, hr1⟩ := ht_x hI.1
  refine lo_long C hI (pb_X10_digest H hI.1 ) (by decide +kernel) rfl (lo_inv mi_X10_digest rfl hr1 rfl) ⟨rfl, rfl⟩ (fun x1 h1 n1 hI1 => ?_)
  refine lx_pop2 C (by decide +kernel) ?_
  refine lx_step C (en := (1165, .aload_n 2, 1, (0, 0, 0, 0), [])) rfl (F := (1166, [(3, .int (nI i)), (2, .ref 542), (1, .ref 0), (0, .retAddr 2)], [.ref 542], h1, n1, cs, ss)) rfl hcs hss ?_
  obtain ⟨fs2, hr2⟩ := ht_m hI1.1
  refine lo_long C hI1 (pb_X11_digest H hI1.1 ) (by decide +kernel) rfl (lo_inv mi_X11_digest rfl hr2 rfl) ⟨rfl, rfl⟩ (fun x2 h2 n2 hI2 => ?_)
  refine lx_pop2 C (by decide +kernel) ?_
  refine lx_step C (en := (1170, .goto 3, 3, (0, 0, 0, 0), [])) rfl (F := (1173, [(3, .int (nI i)), (2, .ref 542), (1, .ref 0), (0, .retAddr 2)], [], h2, n2, cs, ss)) rfl hcs hss ?_
  exact kk h2 n2 cs ss hI2
end LO
