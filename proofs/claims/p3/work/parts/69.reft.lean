/-! ===== times, in the reference: its loop, and what it answers (ways printed by wip/safe/path.py) ===== -/
theorem rt_exit {l : Launch} {G : ax_T} {d a b k c : Nat} (hk : a / 2 ^ k = 0) {x y w : Int32} {h : ax_H} {n : Nat} : ab_Wd l G mt_X11_times d (some (.int (if w.toInt = 0 then nI (tp a b k) else if w.toInt = 1 then nI k else td a b w k)), h, n) (60, [(7, .int (nI (b * 2 ^ k))), (6, .int (nI (a / 2 ^ k))), (5, .int (nI k)), (4, .int (nI (tp a b k))), (8, .int (td a b w k)), (0, .ref c), (1, .int x), (2, .int y), (3, .int w)], [], h, n, 0, 0) := by
  have hmi : mt_X11_times ∈ mt_prog := List.mem_of_getElem? mi_X11_times
  have hz : ax_holds .le (nI (a / 2 ^ k)) 0 := by
    show nI (a / 2 ^ k) ≤ 0
    rw [hk]
    decide
  refine ab_Wd_step mt_ok hmi (en := (60, .iload 6, 2, (0, 0, 0, 0), [])) rfl (F := (62, [(7, .int (nI (b * 2 ^ k))), (6, .int (nI (a / 2 ^ k))), (5, .int (nI k)), (4, .int (nI (tp a b k))), (8, .int (td a b w k)), (0, .ref c), (1, .int x), (2, .int y), (3, .int w)], [.int (nI (a / 2 ^ k))], h, n, 0, 0)) rfl (Nat.zero_le _) (Nat.zero_le _) ?_
  refine cx_zt hmi rfl (tg := 134) rfl hz ?_
  refine ab_Wd_step mt_ok hmi (en := (134, .iload_n 3, 1, (0, 0, 0, 0), [])) rfl (F := (135, [(7, .int (nI (b * 2 ^ k))), (6, .int (nI (a / 2 ^ k))), (5, .int (nI k)), (4, .int (nI (tp a b k))), (8, .int (td a b w k)), (0, .ref c), (1, .int x), (2, .int y), (3, .int w)], [.int w], h, n, 0, 0)) rfl (Nat.zero_le _) (Nat.zero_le _) ?_
  by_cases e0 : w.toInt = 0
  · have h0 : ¬ ax_holds .ne w 0 := fun q => q (Int32.toInt_inj.mp (by rw [e0]; rfl))
    rw [if_pos e0]
    refine cx_zf hmi rfl (tg := 143) rfl h0 ?_
    refine ab_Wd_step mt_ok hmi (en := (138, .iload 4, 2, (0, 0, 0, 0), [])) rfl (F := (140, [(7, .int (nI (b * 2 ^ k))), (6, .int (nI (a / 2 ^ k))), (5, .int (nI k)), (4, .int (nI (tp a b k))), (8, .int (td a b w k)), (0, .ref c), (1, .int x), (2, .int y), (3, .int w)], [.int (nI (tp a b k))], h, n, 0, 0)) rfl (Nat.zero_le _) (Nat.zero_le _) ?_
    refine ab_Wd_step mt_ok hmi (en := (140, .goto 15, 3, (0, 0, 0, 0), [])) rfl (F := (155, [(7, .int (nI (b * 2 ^ k))), (6, .int (nI (a / 2 ^ k))), (5, .int (nI k)), (4, .int (nI (tp a b k))), (8, .int (td a b w k)), (0, .ref c), (1, .int x), (2, .int y), (3, .int w)], [.int (nI (tp a b k))], h, n, 0, 0)) rfl (Nat.zero_le _) (Nat.zero_le _) ?_
    exact ab_Wd_ret mt_ok hmi rfl rfl rfl (Nat.zero_le _) (Nat.zero_le _)
  · have h0 : ax_holds .ne w 0 := fun q => e0 (by rw [q]; rfl)
    rw [if_neg e0]
    refine cx_zt hmi rfl (tg := 143) rfl h0 ?_
    refine ab_Wd_step mt_ok hmi (en := (143, .iload_n 3, 1, (0, 0, 0, 0), [])) rfl (F := (144, [(7, .int (nI (b * 2 ^ k))), (6, .int (nI (a / 2 ^ k))), (5, .int (nI k)), (4, .int (nI (tp a b k))), (8, .int (td a b w k)), (0, .ref c), (1, .int x), (2, .int y), (3, .int w)], [.int w], h, n, 0, 0)) rfl (Nat.zero_le _) (Nat.zero_le _) ?_
    refine ab_Wd_step mt_ok hmi (en := (144, .iconst 1, 1, (0, 0, 0, 0), [])) rfl (F := (145, [(7, .int (nI (b * 2 ^ k))), (6, .int (nI (a / 2 ^ k))), (5, .int (nI k)), (4, .int (nI (tp a b k))), (8, .int (td a b w k)), (0, .ref c), (1, .int x), (2, .int y), (3, .int w)], [.int (Int32.ofInt 1), .int w], h, n, 0, 0)) rfl (Nat.zero_le _) (Nat.zero_le _) ?_
    by_cases e1 : w.toInt = 1
    · have h1 : ¬ ax_holds .ne w (Int32.ofInt 1) := fun q => q (Int32.toInt_inj.mp (by rw [e1]; rfl))
      rw [if_pos e1]
      refine cx_if hmi rfl (tg := 153) rfl h1 ?_
      refine ab_Wd_step mt_ok hmi (en := (148, .iload 5, 2, (0, 0, 0, 0), [])) rfl (F := (150, [(7, .int (nI (b * 2 ^ k))), (6, .int (nI (a / 2 ^ k))), (5, .int (nI k)), (4, .int (nI (tp a b k))), (8, .int (td a b w k)), (0, .ref c), (1, .int x), (2, .int y), (3, .int w)], [.int (nI k)], h, n, 0, 0)) rfl (Nat.zero_le _) (Nat.zero_le _) ?_
      refine ab_Wd_step mt_ok hmi (en := (150, .goto 5, 3, (0, 0, 0, 0), [])) rfl (F := (155, [(7, .int (nI (b * 2 ^ k))), (6, .int (nI (a / 2 ^ k))), (5, .int (nI k)), (4, .int (nI (tp a b k))), (8, .int (td a b w k)), (0, .ref c), (1, .int x), (2, .int y), (3, .int w)], [.int (nI k)], h, n, 0, 0)) rfl (Nat.zero_le _) (Nat.zero_le _) ?_
      exact ab_Wd_ret mt_ok hmi rfl rfl rfl (Nat.zero_le _) (Nat.zero_le _)
    · have h1 : ax_holds .ne w (Int32.ofInt 1) := fun q => e1 (by rw [q]; rfl)
      rw [if_neg e1]
      refine cx_it hmi rfl (tg := 153) rfl h1 ?_
      refine ab_Wd_step mt_ok hmi (en := (153, .iload 8, 2, (0, 0, 0, 0), [])) rfl (F := (155, [(7, .int (nI (b * 2 ^ k))), (6, .int (nI (a / 2 ^ k))), (5, .int (nI k)), (4, .int (nI (tp a b k))), (8, .int (td a b w k)), (0, .ref c), (1, .int x), (2, .int y), (3, .int w)], [.int (td a b w k)], h, n, 0, 0)) rfl (Nat.zero_le _) (Nat.zero_le _) ?_
      exact ab_Wd_ret mt_ok hmi rfl rfl rfl (Nat.zero_le _) (Nat.zero_le _)
theorem rt_loop {l : Launch} {G : ax_T} {d a b c : Nat} (ha : a < 2 ^ 14) (hb : b < 2 ^ 14) {x y w : Int32} {h : ax_H} {n : Nat} : ∀ (f k : Nat), k + f = hl 14 a → ab_Wd l G mt_X11_times d (some (.int (if w.toInt = 0 then nI (tp a b (hl 14 a)) else if w.toInt = 1 then nI (hl 14 a) else td a b w (hl 14 a))), h, n) (60, [(7, .int (nI (b * 2 ^ k))), (6, .int (nI (a / 2 ^ k))), (5, .int (nI k)), (4, .int (nI (tp a b k))), (8, .int (td a b w k)), (0, .ref c), (1, .int x), (2, .int y), (3, .int w)], [], h, n, 0, 0)
  | 0, k, hf => by
    have hk : k = hl 14 a := by omega
    subst hk
    have hL := hl14 a
    have hnot := (not_congr (hl_lt 14 a (hl 14 a))).mp (Nat.lt_irrefl _)
    refine rt_exit ?_
    by_cases e : hl 14 a < 14
    · exact Nat.eq_zero_of_not_pos fun q => hnot ⟨e, q⟩
    · rw [show hl 14 a = 14 by omega]
      exact Nat.div_eq_of_lt ha
  | f + 1, k, hf => by
    have hlt := (hl_lt 14 a k).mp (by omega)
    exact rt_body ha hb hlt.1 hlt.2 (rt_loop ha hb f (k + 1) (by omega))
theorem rt_eq {a b : Nat} {w : Int32} (hw : (0 ≤ w.toInt ∧ w.toInt ≤ 1) ∨ 10 ≤ w.toInt ∧ w.toInt ≤ 49) : (if w.toInt = 0 then nI (tp a b (hl 14 a)) else if w.toInt = 1 then nI (hl 14 a) else td a b w (hl 14 a)) = tmI a b w := by
  have hL := hl14 a
  unfold tmI
  by_cases e0 : w.toInt = 0
  · rw [if_pos e0, if_pos e0]
  rw [if_neg e0, if_neg e0]
  by_cases e1 : w.toInt = 1
  · rw [if_pos e1, if_pos e1]
  rw [if_neg e1, if_neg e1, td_eq a b w (hl 14 a) (by omega)]
  by_cases e2 : 10 ≤ w.toInt ∧ w.toInt < 30
  · rw [if_pos e2]
    by_cases e3 : (w.toInt - 10).toNat < hl 14 a
    · rw [if_pos e3, if_pos (by omega)]
    · rw [if_neg e3, if_neg (by omega), if_neg (by omega)]
  · rw [if_neg e2, if_neg (by omega), if_pos (by omega : 30 ≤ w.toInt ∧ w.toInt < 50)]
    by_cases e3 : (w.toInt - 30).toNat < hl 14 a
    · rw [if_pos e3, if_pos (by omega)]
    · rw [if_neg e3, if_neg (by omega)]
theorem rt_in {l : Launch} {G : ax_T} {d a b c : Nat} (ha : a < 2 ^ 14) (ha0 : 0 < a) (hb : b < 2 ^ 14) {w : Int32} (hw : (0 ≤ w.toInt ∧ w.toInt ≤ 1) ∨ 10 ≤ w.toInt ∧ w.toInt ≤ 49) {h : ax_H} {n : Nat} : ab_Wd l G mt_X11_times d (some (.int (tmI a b w)), h, n) (45, [(0, .ref c), (1, .int (nI a)), (2, .int (nI b)), (3, .int w)], [], h, n, 0, 0) := by
  have hmi : mt_X11_times ∈ mt_prog := List.mem_of_getElem? mi_X11_times
  have h1 : 0 < hl 14 a := (hl_lt 14 a 0).mpr ⟨by decide, by rw [Nat.pow_zero, Nat.div_one]; exact ha0⟩
  have hbody := rt_body0 (l := l) (G := G) (d := d) (k := 0) (c := c) (x := nI a) (y := nI b) (w := w) (h := h) (n := n) ha hb (by decide) (by rw [Nat.pow_zero, Nat.div_one]; exact ha0) (rt_loop (l := l) (G := G) (d := d) (c := c) (x := nI a) (y := nI b) (w := w) (h := h) (n := n) ha hb (hl 14 a - 1) 1 (by omega))
  rw [rt_eq hw, Nat.pow_zero, Nat.mul_one, Nat.div_one] at hbody
  refine ab_Wd_step mt_ok hmi (en := (45, .iconst 0, 1, (0, 0, 0, 0), [])) rfl (F := (46, [(0, .ref c), (1, .int (nI a)), (2, .int (nI b)), (3, .int w)], [.int (Int32.ofInt 0)], h, n, 0, 0)) rfl (Nat.zero_le _) (Nat.zero_le _) ?_
  refine ab_Wd_step mt_ok hmi (en := (46, .istore 4, 2, (0, 0, 0, 0), [])) rfl (F := (48, [(4, .int (Int32.ofInt 0)), (0, .ref c), (1, .int (nI a)), (2, .int (nI b)), (3, .int w)], [], h, n, 0, 0)) rfl (Nat.zero_le _) (Nat.zero_le _) ?_
  refine ab_Wd_step mt_ok hmi (en := (48, .iconst 0, 1, (0, 0, 0, 0), [])) rfl (F := (49, [(4, .int (Int32.ofInt 0)), (0, .ref c), (1, .int (nI a)), (2, .int (nI b)), (3, .int w)], [.int (Int32.ofInt 0)], h, n, 0, 0)) rfl (Nat.zero_le _) (Nat.zero_le _) ?_
  refine ab_Wd_step mt_ok hmi (en := (49, .istore 5, 2, (0, 0, 0, 0), [])) rfl (F := (51, [(5, .int (Int32.ofInt 0)), (4, .int (Int32.ofInt 0)), (0, .ref c), (1, .int (nI a)), (2, .int (nI b)), (3, .int w)], [], h, n, 0, 0)) rfl (Nat.zero_le _) (Nat.zero_le _) ?_
  refine ab_Wd_step mt_ok hmi (en := (51, .iload_n 1, 1, (0, 0, 0, 0), [])) rfl (F := (52, [(5, .int (Int32.ofInt 0)), (4, .int (Int32.ofInt 0)), (0, .ref c), (1, .int (nI a)), (2, .int (nI b)), (3, .int w)], [.int (nI a)], h, n, 0, 0)) rfl (Nat.zero_le _) (Nat.zero_le _) ?_
  refine ab_Wd_step mt_ok hmi (en := (52, .istore 6, 2, (0, 0, 0, 0), [])) rfl (F := (54, [(6, .int (nI a)), (5, .int (Int32.ofInt 0)), (4, .int (Int32.ofInt 0)), (0, .ref c), (1, .int (nI a)), (2, .int (nI b)), (3, .int w)], [], h, n, 0, 0)) rfl (Nat.zero_le _) (Nat.zero_le _) ?_
  refine ab_Wd_step mt_ok hmi (en := (54, .iload_n 2, 1, (0, 0, 0, 0), [])) rfl (F := (55, [(6, .int (nI a)), (5, .int (Int32.ofInt 0)), (4, .int (Int32.ofInt 0)), (0, .ref c), (1, .int (nI a)), (2, .int (nI b)), (3, .int w)], [.int (nI b)], h, n, 0, 0)) rfl (Nat.zero_le _) (Nat.zero_le _) ?_
  refine ab_Wd_step mt_ok hmi (en := (55, .istore 7, 2, (0, 0, 0, 0), [])) rfl (F := (57, [(7, .int (nI b)), (6, .int (nI a)), (5, .int (Int32.ofInt 0)), (4, .int (Int32.ofInt 0)), (0, .ref c), (1, .int (nI a)), (2, .int (nI b)), (3, .int w)], [], h, n, 0, 0)) rfl (Nat.zero_le _) (Nat.zero_le _) ?_
  refine ab_Wd_step mt_ok hmi (en := (57, .iconst (-1), 1, (0, 0, 0, 0), [])) rfl (F := (58, [(7, .int (nI b)), (6, .int (nI a)), (5, .int (Int32.ofInt 0)), (4, .int (Int32.ofInt 0)), (0, .ref c), (1, .int (nI a)), (2, .int (nI b)), (3, .int w)], [.int (Int32.ofInt (-1))], h, n, 0, 0)) rfl (Nat.zero_le _) (Nat.zero_le _) ?_
  refine ab_Wd_step mt_ok hmi (en := (58, .istore 8, 2, (0, 0, 0, 0), [])) rfl (F := (60, [(8, .int (Int32.ofInt (-1))), (7, .int (nI b)), (6, .int (nI a)), (5, .int (Int32.ofInt 0)), (4, .int (Int32.ofInt 0)), (0, .ref c), (1, .int (nI a)), (2, .int (nI b)), (3, .int w)], [], h, n, 0, 0)) rfl (Nat.zero_le _) (Nat.zero_le _) ?_
  exact hbody
theorem rt_ok {l : Launch} {G : ax_T} {d : Nat} (a b w : Int32) (c : Nat) (h : ax_H) (n : Nat) : ab_M l G (d + 2) mt_X11_times [.ref c, .int a, .int b, .int w] h n (some (.int (tmS a b w)), h, n) := by
  have hmi : mt_X11_times ∈ mt_prog := List.mem_of_getElem? mi_X11_times
  have z0 : (Int32.ofInt 0).toInt = 0 := rfl
  have z1 : (Int32.ofInt 1).toInt = 1 := rfl
  have z9 : ((Int16.ofInt 9999).toInt32).toInt = 9999 := cx_16i 9999 (by decide)
  have z10 : ((Int8.ofInt 10).toInt32).toInt = 10 := cx_8i 10 (by decide)
  have z49 : ((Int8.ofInt 49).toInt32).toInt = 49 := cx_8i 49 (by decide)
  have q0 : ax_holds .eq (0 : Int32) 0 := rfl
  have q1 : ¬ ax_holds .eq (1 : Int32) 0 := by intro q; cases q
  have q1n : ax_holds .ne (1 : Int32) 0 := q1
  have q0n : ¬ ax_holds .ne (0 : Int32) 0 := fun q => q rfl
  refine ab_Wd_call mt_ok hmi (Nat.le_of_ble_eq_true rfl) rfl ?_
  show ab_Wd l G mt_X11_times (d + 1) _ (0, [(0, .ref c), (1, .int a), (2, .int b), (3, .int w)], [], h, n, 0, 0)
  refine ab_Wd_step mt_ok hmi (en := (0, .iload_n 1, 1, (0, 0, 0, 0), [])) rfl (F := (1, [(0, .ref c), (1, .int a), (2, .int b), (3, .int w)], [.int a], h, n, 0, 0)) rfl (Nat.zero_le _) (Nat.zero_le _) ?_
  refine ab_Wd_step mt_ok hmi (en := (1, .iconst 1, 1, (0, 0, 0, 0), [])) rfl (F := (2, [(0, .ref c), (1, .int a), (2, .int b), (3, .int w)], [.int (Int32.ofInt 1), .int a], h, n, 0, 0)) rfl (Nat.zero_le _) (Nat.zero_le _) ?_
  refine ab_Wd_step mt_ok hmi (en := (2, .sipush 9999, 3, (0, 0, 0, 0), [])) rfl (F := (5, [(0, .ref c), (1, .int a), (2, .int b), (3, .int w)], [.int (Int16.ofInt 9999).toInt32, .int (Int32.ofInt 1), .int a], h, n, 0, 0)) rfl (Nat.zero_le _) (Nat.zero_le _) ?_
  refine cx_call hmi rfl rfl ⟨rfl, rfl⟩ (in_ok (d := d) a (Int32.ofInt 1) ((Int16.ofInt 9999).toInt32) h n) ?_
  rw [z1, z9]
  by_cases hA : 1 ≤ a.toInt ∧ a.toInt ≤ 9999
  case neg =>
    rw [if_neg hA]
    rw [show tmS a b w = (Int8.ofInt (-102)).toInt32 from by unfold tmS; rw [if_neg (by omega), cx_m102]]
    refine cx_zt hmi rfl (tg := 42) rfl q0 ?_
    refine ab_Wd_step mt_ok hmi (en := (42, .bipush (-102), 2, (0, 0, 0, 0), [])) rfl (F := (44, [(0, .ref c), (1, .int a), (2, .int b), (3, .int w)], [.int (Int8.ofInt (-102)).toInt32], h, n, 0, 0)) rfl (Nat.zero_le _) (Nat.zero_le _) ?_
    exact ab_Wd_ret mt_ok hmi rfl rfl rfl (Nat.zero_le _) (Nat.zero_le _)
  rw [if_pos hA]
  refine cx_zf hmi rfl (tg := 42) rfl q1 ?_
  refine ab_Wd_step mt_ok hmi (en := (11, .iload_n 2, 1, (0, 0, 0, 0), [])) rfl (F := (12, [(0, .ref c), (1, .int a), (2, .int b), (3, .int w)], [.int b], h, n, 0, 0)) rfl (Nat.zero_le _) (Nat.zero_le _) ?_
  refine ab_Wd_step mt_ok hmi (en := (12, .iconst 1, 1, (0, 0, 0, 0), [])) rfl (F := (13, [(0, .ref c), (1, .int a), (2, .int b), (3, .int w)], [.int (Int32.ofInt 1), .int b], h, n, 0, 0)) rfl (Nat.zero_le _) (Nat.zero_le _) ?_
  refine ab_Wd_step mt_ok hmi (en := (13, .sipush 9999, 3, (0, 0, 0, 0), [])) rfl (F := (16, [(0, .ref c), (1, .int a), (2, .int b), (3, .int w)], [.int (Int16.ofInt 9999).toInt32, .int (Int32.ofInt 1), .int b], h, n, 0, 0)) rfl (Nat.zero_le _) (Nat.zero_le _) ?_
  refine cx_call hmi rfl rfl ⟨rfl, rfl⟩ (in_ok (d := d) b (Int32.ofInt 1) ((Int16.ofInt 9999).toInt32) h n) ?_
  rw [z1, z9]
  by_cases hB : 1 ≤ b.toInt ∧ b.toInt ≤ 9999
  case neg =>
    rw [if_neg hB]
    rw [show tmS a b w = (Int8.ofInt (-102)).toInt32 from by unfold tmS; rw [if_neg (by omega), cx_m102]]
    refine cx_zt hmi rfl (tg := 42) rfl q0 ?_
    refine ab_Wd_step mt_ok hmi (en := (42, .bipush (-102), 2, (0, 0, 0, 0), [])) rfl (F := (44, [(0, .ref c), (1, .int a), (2, .int b), (3, .int w)], [.int (Int8.ofInt (-102)).toInt32], h, n, 0, 0)) rfl (Nat.zero_le _) (Nat.zero_le _) ?_
    exact ab_Wd_ret mt_ok hmi rfl rfl rfl (Nat.zero_le _) (Nat.zero_le _)
  rw [if_pos hB]
  refine cx_zf hmi rfl (tg := 42) rfl q1 ?_
  refine ab_Wd_step mt_ok hmi (en := (22, .iload_n 3, 1, (0, 0, 0, 0), [])) rfl (F := (23, [(0, .ref c), (1, .int a), (2, .int b), (3, .int w)], [.int w], h, n, 0, 0)) rfl (Nat.zero_le _) (Nat.zero_le _) ?_
  refine ab_Wd_step mt_ok hmi (en := (23, .iconst 0, 1, (0, 0, 0, 0), [])) rfl (F := (24, [(0, .ref c), (1, .int a), (2, .int b), (3, .int w)], [.int (Int32.ofInt 0), .int w], h, n, 0, 0)) rfl (Nat.zero_le _) (Nat.zero_le _) ?_
  refine ab_Wd_step mt_ok hmi (en := (24, .iconst 1, 1, (0, 0, 0, 0), [])) rfl (F := (25, [(0, .ref c), (1, .int a), (2, .int b), (3, .int w)], [.int (Int32.ofInt 1), .int (Int32.ofInt 0), .int w], h, n, 0, 0)) rfl (Nat.zero_le _) (Nat.zero_le _) ?_
  refine cx_call hmi rfl rfl ⟨rfl, rfl⟩ (in_ok (d := d) w (Int32.ofInt 0) (Int32.ofInt 1) h n) ?_
  rw [z0, z1]
  have hS : tmS a b w = tmI a.toInt.toNat b.toInt.toNat w := if_pos ⟨hA, hB⟩
  obtain ⟨A, hA1, rfl, eA⟩ := ab_nn (x := a) (by omega)
  obtain ⟨B, hB1, rfl, eB⟩ := ab_nn (x := b) (by omega)
  rw [show (nI A).toInt.toNat = A by omega, show (nI B).toInt.toNat = B by omega] at hS
  rw [hS]
  by_cases hW : 0 ≤ w.toInt ∧ w.toInt ≤ 1
  · rw [if_pos hW]
    refine cx_zt hmi rfl (tg := 45) rfl q1n ?_
    exact rt_in (by omega) (by omega) (by omega) (Or.inl hW)
  · rw [if_neg hW]
    refine cx_zf hmi rfl (tg := 45) rfl q0n ?_
    refine ab_Wd_step mt_ok hmi (en := (31, .iload_n 3, 1, (0, 0, 0, 0), [])) rfl (F := (32, [(0, .ref c), (1, .int (nI A)), (2, .int (nI B)), (3, .int w)], [.int w], h, n, 0, 0)) rfl (Nat.zero_le _) (Nat.zero_le _) ?_
    refine ab_Wd_step mt_ok hmi (en := (32, .bipush 10, 2, (0, 0, 0, 0), [])) rfl (F := (34, [(0, .ref c), (1, .int (nI A)), (2, .int (nI B)), (3, .int w)], [.int (Int8.ofInt 10).toInt32, .int w], h, n, 0, 0)) rfl (Nat.zero_le _) (Nat.zero_le _) ?_
    refine ab_Wd_step mt_ok hmi (en := (34, .bipush 49, 2, (0, 0, 0, 0), [])) rfl (F := (36, [(0, .ref c), (1, .int (nI A)), (2, .int (nI B)), (3, .int w)], [.int (Int8.ofInt 49).toInt32, .int (Int8.ofInt 10).toInt32, .int w], h, n, 0, 0)) rfl (Nat.zero_le _) (Nat.zero_le _) ?_
    refine cx_call hmi rfl rfl ⟨rfl, rfl⟩ (in_ok (d := d) w (Int8.ofInt 10).toInt32 (Int8.ofInt 49).toInt32 h n) ?_
    rw [z10, z49]
    by_cases hV : 10 ≤ w.toInt ∧ w.toInt ≤ 49
    · rw [if_pos hV]
      refine cx_zt hmi rfl (tg := 45) rfl q1n ?_
      exact rt_in (by omega) (by omega) (by omega) (Or.inr hV)
    · rw [if_neg hV]
      rw [show tmI A B w = (Int8.ofInt (-102)).toInt32 from by unfold tmI; rw [if_neg (by omega), if_neg (by omega), if_neg (by omega), if_neg (by omega), cx_m102]]
      refine cx_zf hmi rfl (tg := 45) rfl q0n ?_
      refine ab_Wd_step mt_ok hmi (en := (42, .bipush (-102), 2, (0, 0, 0, 0), [])) rfl (F := (44, [(0, .ref c), (1, .int (nI A)), (2, .int (nI B)), (3, .int w)], [.int (Int8.ofInt (-102)).toInt32], h, n, 0, 0)) rfl (Nat.zero_le _) (Nat.zero_le _) ?_
      exact ab_Wd_ret mt_ok hmi rfl rfl rfl (Nat.zero_le _) (Nat.zero_le _)
