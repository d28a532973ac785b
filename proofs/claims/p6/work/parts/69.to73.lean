section
/-! ===== times, in the reference: its loop, and what it answers (ways printed by wip/safe/path.py) ===== -/
theorem rt_exit {l : Launch} {G : ax_T} {d a b k c : Nat} (hk : a / 2 ^ k = 0) {x y w : Int32} {h : ax_H} {n : Nat} : ab_Wd l G mt_X11_times d (some (.int (if w.toInt = 0 then nI (tp a b k) else if w.toInt = 1 then nI k else td a b w k)), h, n) (60, [(7, .int (nI (b * 2 ^ k))), (6, .int (nI (a / 2 ^ k))), (5, .int (nI k)), (4, .int (nI (tp a b k))), (8, .int (td a b w k)), (0, .ref c), (1, .int x), (2, .int y), (3, .int w)], [], h, n, 0, 0) := by
  have hmi : mt_X11_times ∈ mt_prog := List.mem_of_getElem? mi_X11_times
  have hz : ax_holds .le (nI (a / 2 ^ k)) 0 := by
    show nI (a / 2 ^ k) ≤ 0
    rw [hk]
    decide
  refine ab_Wd_step mt_ok hmi (en := (60, .iload 6, 2, (0, 0, 0, 0), [])) rfl (F := (62, [(7, .int (nI (b * 2 ^ k))), (6, .int (nI (a / 2 ^ k))), (5, .int (nI k)), (4, .int (nI (tp a b k))), (8, .int (td a b w k)), (0, .ref c), (1, .int x), (2, .int y), (3, .int w)], [.int (nI (a / 2 ^ k))], h, n, 0, 0)) rfl (Nat.zero_le _) (Nat.zero_le _) ?_
  refine cx_zt hmi rfl (tg := 134) rfl hz ?_
  refine ab_Wd_step mt_ok hmi (en := (134, .iload_n 3, 1, (0, 0, 0, 0), [])) rfl (F := (135, [(7, .int (nI (b * 2 ^ k))), (6, .int (nI (a / 2 ^ k))), (5, .int (nI k)), (4, .int (nI (tp a b k))), (8, .int (td a b w k)), (0, .ref c), (1, .int x), (2, .int y), (3, .int w)], [.int w], h, n, 0, 0)) rfl (Nat.zero_le _) (Nat.zero_le _) ?_
  by_cases e0 : w.toInt = 0
  · have h0 : ¬ ax_holds .ne w 0 := fun q => q (Int32.toInt_inj.mp (by rw [e0]; rfl))
    rw [if_pos e0]
    refine cx_zf hmi rfl (tg := 143) rfl h0 ?_
    refine ab_Wd_step mt_ok hmi (en := (138, .iload 4, 2, (0, 0, 0, 0), [])) rfl (F := (140, [(7, .int (nI (b * 2 ^ k))), (6, .int (nI (a / 2 ^ k))), (5, .int (nI k)), (4, .int (nI (tp a b k))), (8, .int (td a b w k)), (0, .ref c), (1, .int x), (2, .int y), (3, .int w)], [.int (nI (tp a b k))], h, n, 0, 0)) rfl (Nat.zero_le _) (Nat.zero_le _) ?_
    refine ab_Wd_step mt_ok hmi (en := (140, .goto 15, 3, (0, 0, 0, 0), [])) rfl (F := (155, [(7, .int (nI (b * 2 ^ k))), (6, .int (nI (a / 2 ^ k))), (5, .int (nI k)), (4, .int (nI (tp a b k))), (8, .int (td a b w k)), (0, .ref c), (1, .int x), (2, .int y), (3, .int w)], [.int (nI (tp a b k))], h, n, 0, 0)) rfl (Nat.zero_le _) (Nat.zero_le _) ?_
    exact ab_Wd_ret mt_ok hmi rfl rfl rfl (Nat.zero_le _) (Nat.zero_le _)
  · have h0 : ax_holds .ne w 0 := fun q => e0 (by rw [q]; rfl)
    rw [if_neg e0]
    refine cx_zt hmi rfl (tg := 143) rfl h0 ?_
    refine ab_Wd_step mt_ok hmi (en := (143, .iload_n 3, 1, (0, 0, 0, 0), [])) rfl (F := (144, [(7, .int (nI (b * 2 ^ k))), (6, .int (nI (a / 2 ^ k))), (5, .int (nI k)), (4, .int (nI (tp a b k))), (8, .int (td a b w k)), (0, .ref c), (1, .int x), (2, .int y), (3, .int w)], [.int w], h, n, 0, 0)) rfl (Nat.zero_le _) (Nat.zero_le _) ?_
    refine ab_Wd_step mt_ok hmi (en := (144, .iconst 1, 1, (0, 0, 0, 0), [])) rfl (F := (145, [(7, .int (nI (b * 2 ^ k))), (6, .int (nI (a / 2 ^ k))), (5, .int (nI k)), (4, .int (nI (tp a b k))), (8, .int (td a b w k)), (0, .ref c), (1, .int x), (2, .int y), (3, .int w)], [.int (Int32.ofInt 1), .int w], h, n, 0, 0)) rfl (Nat.zero_le _) (Nat.zero_le _) ?_
    by_cases e1 : w.toInt = 1
    · have h1 : ¬ ax_holds .ne w (Int32.ofInt 1) := fun q => q (Int32.toInt_inj.mp (by rw [e1]; rfl))
      rw [if_pos e1]
      refine cx_if hmi rfl (tg := 153) rfl h1 ?_
      refine ab_Wd_step mt_ok hmi (en := (148, .iload 5, 2, (0, 0, 0, 0), [])) rfl (F := (150, [(7, .int (nI (b * 2 ^ k))), (6, .int (nI (a / 2 ^ k))), (5, .int (nI k)), (4, .int (nI (tp a b k))), (8, .int (td a b w k)), (0, .ref c), (1, .int x), (2, .int y), (3, .int w)], [.int (nI k)], h, n, 0, 0)) rfl (Nat.zero_le _) (Nat.zero_le _) ?_
      refine ab_Wd_step mt_ok hmi (en := (150, .goto 5, 3, (0, 0, 0, 0), [])) rfl (F := (155, [(7, .int (nI (b * 2 ^ k))), (6, .int (nI (a / 2 ^ k))), (5, .int (nI k)), (4, .int (nI (tp a b k))), (8, .int (td a b w k)), (0, .ref c), (1, .int x), (2, .int y), (3, .int w)], [.int (nI k)], h, n, 0, 0)) rfl (Nat.zero_le _) (Nat.zero_le _) ?_
      exact ab_Wd_ret mt_ok hmi rfl rfl rfl (Nat.zero_le _) (Nat.zero_le _)
    · have h1 : ax_holds .ne w (Int32.ofInt 1) := fun q => e1 (by rw [q]; rfl)
      rw [if_neg e1]
      refine cx_it hmi rfl (tg := 153) rfl h1 ?_
      refine ab_Wd_step mt_ok hmi (en := (153, .iload 8, 2, (0, 0, 0, 0), [])) rfl (F := (155, [(7, .int (nI (b * 2 ^ k))), (6, .int (nI (a / 2 ^ k))), (5, .int (nI k)), (4, .int (nI (tp a b k))), (8, .int (td a b w k)), (0, .ref c), (1, .int x), (2, .int y), (3, .int w)], [.int (td a b w k)], h, n, 0, 0)) rfl (Nat.zero_le _) (Nat.zero_le _) ?_
      exact ab_Wd_ret mt_ok hmi rfl rfl rfl (Nat.zero_le _) (Nat.zero_le _)
theorem rt_loop {l : Launch} {G : ax_T} {d a b c : Nat} (ha : a < 2 ^ 14) (hb : b < 2 ^ 14) {x y w : Int32} {h : ax_H} {n : Nat} : ∀ (f k : Nat), k + f = hl 14 a → ab_Wd l G mt_X11_times d (some (.int (if w.toInt = 0 then nI (tp a b (hl 14 a)) else if w.toInt = 1 then nI (hl 14 a) else td a b w (hl 14 a))), h, n) (60, [(7, .int (nI (b * 2 ^ k))), (6, .int (nI (a / 2 ^ k))), (5, .int (nI k)), (4, .int (nI (tp a b k))), (8, .int (td a b w k)), (0, .ref c), (1, .int x), (2, .int y), (3, .int w)], [], h, n, 0, 0)
  | 0, k, hf => by
    have hk : k = hl 14 a := by omega
    subst hk
    have hL := hl14 a
    have hnot := (not_congr (hl_lt 14 a (hl 14 a))).mp (Nat.lt_irrefl _)
    refine rt_exit ?_
    by_cases e : hl 14 a < 14
    · exact Nat.eq_zero_of_not_pos fun q => hnot ⟨e, q⟩
    · rw [show hl 14 a = 14 by omega]
      exact Nat.div_eq_of_lt ha
  | f + 1, k, hf => by
    have hlt := (hl_lt 14 a k).mp (by omega)
    exact rt_body ha hb hlt.1 hlt.2 (rt_loop ha hb f (k + 1) (by omega))
theorem rt_eq {a b : Nat} {w : Int32} (hw : (0 ≤ w.toInt ∧ w.toInt ≤ 1) ∨ 10 ≤ w.toInt ∧ w.toInt ≤ 49) : (if w.toInt = 0 then nI (tp a b (hl 14 a)) else if w.toInt = 1 then nI (hl 14 a) else td a b w (hl 14 a)) = tmI a b w := by
  have hL := hl14 a
  unfold tmI
  by_cases e0 : w.toInt = 0
  · rw [if_pos e0, if_pos e0]
  rw [if_neg e0, if_neg e0]
  by_cases e1 : w.toInt = 1
  · rw [if_pos e1, if_pos e1]
  rw [if_neg e1, if_neg e1, td_eq a b w (hl 14 a) (by omega)]
  by_cases e2 : 10 ≤ w.toInt ∧ w.toInt < 30
  · rw [if_pos e2]
    by_cases e3 : (w.toInt - 10).toNat < hl 14 a
    · rw [if_pos e3, if_pos (by omega)]
    · rw [if_neg e3, if_neg (by omega), if_neg (by omega)]
  · rw [if_neg e2, if_neg (by omega), if_pos (by omega : 30 ≤ w.toInt ∧ w.toInt < 50)]
    by_cases e3 : (w.toInt - 30).toNat < hl 14 a
    · rw [if_pos e3, if_pos (by omega)]
    · rw [if_neg e3, if_neg (by omega)]
theorem rt_in {l : Launch} {G : ax_T} {d a b c : Nat} (ha : a < 2 ^ 14) (ha0 : 0 < a) (hb : b < 2 ^ 14) {w : Int32} (hw : (0 ≤ w.toInt ∧ w.toInt ≤ 1) ∨ 10 ≤ w.toInt ∧ w.toInt ≤ 49) {h : ax_H} {n : Nat} : ab_Wd l G mt_X11_times d (some (.int (tmI a b w)), h, n) (45, [(0, .ref c), (1, .int (nI a)), (2, .int (nI b)), (3, .int w)], [], h, n, 0, 0) := by
  have hmi : mt_X11_times ∈ mt_prog := List.mem_of_getElem? mi_X11_times
  have h1 : 0 < hl 14 a := (hl_lt 14 a 0).mpr ⟨by decide, by rw [Nat.pow_zero, Nat.div_one]; exact ha0⟩
  have hbody := rt_body0 (l := l) (G := G) (d := d) (k := 0) (c := c) (x := nI a) (y := nI b) (w := w) (h := h) (n := n) ha hb (by decide) (by rw [Nat.pow_zero, Nat.div_one]; exact ha0) (rt_loop (l := l) (G := G) (d := d) (c := c) (x := nI a) (y := nI b) (w := w) (h := h) (n := n) ha hb (hl 14 a - 1) 1 (by omega))
  rw [rt_eq hw, Nat.pow_zero, Nat.mul_one, Nat.div_one] at hbody
  refine ab_Wd_step mt_ok hmi (en := (45, .iconst 0, 1, (0, 0, 0, 0), [])) rfl (F := (46, [(0, .ref c), (1, .int (nI a)), (2, .int (nI b)), (3, .int w)], [.int (Int32.ofInt 0)], h, n, 0, 0)) rfl (Nat.zero_le _) (Nat.zero_le _) ?_
  refine ab_Wd_step mt_ok hmi (en := (46, .istore 4, 2, (0, 0, 0, 0), [])) rfl (F := (48, [(4, .int (Int32.ofInt 0)), (0, .ref c), (1, .int (nI a)), (2, .int (nI b)), (3, .int w)], [], h, n, 0, 0)) rfl (Nat.zero_le _) (Nat.zero_le _) ?_
  refine ab_Wd_step mt_ok hmi (en := (48, .iconst 0, 1, (0, 0, 0, 0), [])) rfl (F := (49, [(4, .int (Int32.ofInt 0)), (0, .ref c), (1, .int (nI a)), (2, .int (nI b)), (3, .int w)], [.int (Int32.ofInt 0)], h, n, 0, 0)) rfl (Nat.zero_le _) (Nat.zero_le _) ?_
  refine ab_Wd_step mt_ok hmi (en := (49, .istore 5, 2, (0, 0, 0, 0), [])) rfl (F := (51, [(5, .int (Int32.ofInt 0)), (4, .int (Int32.ofInt 0)), (0, .ref c), (1, .int (nI a)), (2, .int (nI b)), (3, .int w)], [], h, n, 0, 0)) rfl (Nat.zero_le _) (Nat.zero_le _) ?_
  refine ab_Wd_step mt_ok hmi (en := (51, .iload_n 1, 1, (0, 0, 0, 0), [])) rfl (F := (52, [(5, .int (Int32.ofInt 0)), (4, .int (Int32.ofInt 0)), (0, .ref c), (1, .int (nI a)), (2, .int (nI b)), (3, .int w)], [.int (nI a)], h, n, 0, 0)) rfl (Nat.zero_le _) (Nat.zero_le _) ?_
  refine ab_Wd_step mt_ok hmi (en := (52, .istore 6, 2, (0, 0, 0, 0), [])) rfl (F := (54, [(6, .int (nI a)), (5, .int (Int32.ofInt 0)), (4, .int (Int32.ofInt 0)), (0, .ref c), (1, .int (nI a)), (2, .int (nI b)), (3, .int w)], [], h, n, 0, 0)) rfl (Nat.zero_le _) (Nat.zero_le _) ?_
  refine ab_Wd_step mt_ok hmi (en := (54, .iload_n 2, 1, (0, 0, 0, 0), [])) rfl (F := (55, [(6, .int (nI a)), (5, .int (Int32.ofInt 0)), (4, .int (Int32.ofInt 0)), (0, .ref c), (1, .int (nI a)), (2, .int (nI b)), (3, .int w)], [.int (nI b)], h, n, 0, 0)) rfl (Nat.zero_le _) (Nat.zero_le _) ?_
  refine ab_Wd_step mt_ok hmi (en := (55, .istore 7, 2, (0, 0, 0, 0), [])) rfl (F := (57, [(7, .int (nI b)), (6, .int (nI a)), (5, .int (Int32.ofInt 0)), (4, .int (Int32.ofInt 0)), (0, .ref c), (1, .int (nI a)), (2, .int (nI b)), (3, .int w)], [], h, n, 0, 0)) rfl (Nat.zero_le _) (Nat.zero_le _) ?_
  refine ab_Wd_step mt_ok hmi (en := (57, .iconst (-1), 1, (0, 0, 0, 0), [])) rfl (F := (58, [(7, .int (nI b)), (6, .int (nI a)), (5, .int (Int32.ofInt 0)), (4, .int (Int32.ofInt 0)), (0, .ref c), (1, .int (nI a)), (2, .int (nI b)), (3, .int w)], [.int (Int32.ofInt (-1))], h, n, 0, 0)) rfl (Nat.zero_le _) (Nat.zero_le _) ?_
  refine ab_Wd_step mt_ok hmi (en := (58, .istore 8, 2, (0, 0, 0, 0), [])) rfl (F := (60, [(8, .int (Int32.ofInt (-1))), (7, .int (nI b)), (6, .int (nI a)), (5, .int (Int32.ofInt 0)), (4, .int (Int32.ofInt 0)), (0, .ref c), (1, .int (nI a)), (2, .int (nI b)), (3, .int w)], [], h, n, 0, 0)) rfl (Nat.zero_le _) (Nat.zero_le _) ?_
  exact hbody
theorem rt_ok {l : Launch} {G : ax_T} {d : Nat} (a b w : Int32) (c : Nat) (h : ax_H) (n : Nat) : ab_M l G (d + 2) mt_X11_times [.ref c, .int a, .int b, .int w] h n (some (.int (tmS a b w)), h, n) := by
  have hmi : mt_X11_times ∈ mt_prog := List.mem_of_getElem? mi_X11_times
  have z0 : (Int32.ofInt 0).toInt = 0 := rfl
  have z1 : (Int32.ofInt 1).toInt = 1 := rfl
  have z9 : ((Int16.ofInt 9999).toInt32).toInt = 9999 := cx_16i 9999 (by decide)
  have z10 : ((Int8.ofInt 10).toInt32).toInt = 10 := cx_8i 10 (by decide)
  have z49 : ((Int8.ofInt 49).toInt32).toInt = 49 := cx_8i 49 (by decide)
  have q0 : ax_holds .eq (0 : Int32) 0 := rfl
  have q1 : ¬ ax_holds .eq (1 : Int32) 0 := by intro q; cases q
  have q1n : ax_holds .ne (1 : Int32) 0 := q1
  have q0n : ¬ ax_holds .ne (0 : Int32) 0 := fun q => q rfl
  refine ab_Wd_call mt_ok hmi (Nat.le_of_ble_eq_true rfl) rfl ?_
  show ab_Wd l G mt_X11_times (d + 1) _ (0, [(0, .ref c), (1, .int a), (2, .int b), (3, .int w)], [], h, n, 0, 0)
  refine ab_Wd_step mt_ok hmi (en := (0, .iload_n 1, 1, (0, 0, 0, 0), [])) rfl (F := (1, [(0, .ref c), (1, .int a), (2, .int b), (3, .int w)], [.int a], h, n, 0, 0)) rfl (Nat.zero_le _) (Nat.zero_le _) ?_
  refine ab_Wd_step mt_ok hmi (en := (1, .iconst 1, 1, (0, 0, 0, 0), [])) rfl (F := (2, [(0, .ref c), (1, .int a), (2, .int b), (3, .int w)], [.int (Int32.ofInt 1), .int a], h, n, 0, 0)) rfl (Nat.zero_le _) (Nat.zero_le _) ?_
  refine ab_Wd_step mt_ok hmi (en := (2, .sipush 9999, 3, (0, 0, 0, 0), [])) rfl (F := (5, [(0, .ref c), (1, .int a), (2, .int b), (3, .int w)], [.int (Int16.ofInt 9999).toInt32, .int (Int32.ofInt 1), .int a], h, n, 0, 0)) rfl (Nat.zero_le _) (Nat.zero_le _) ?_
  refine cx_call hmi rfl rfl ⟨rfl, rfl⟩ (in_ok (d := d) a (Int32.ofInt 1) ((Int16.ofInt 9999).toInt32) h n) ?_
  rw [z1, z9]
  by_cases hA : 1 ≤ a.toInt ∧ a.toInt ≤ 9999
  case neg =>
    rw [if_neg hA]
    rw [show tmS a b w = (Int8.ofInt (-102)).toInt32 from by unfold tmS; rw [if_neg (by omega), cx_m102]]
    refine cx_zt hmi rfl (tg := 42) rfl q0 ?_
    refine ab_Wd_step mt_ok hmi (en := (42, .bipush (-102), 2, (0, 0, 0, 0), [])) rfl (F := (44, [(0, .ref c), (1, .int a), (2, .int b), (3, .int w)], [.int (Int8.ofInt (-102)).toInt32], h, n, 0, 0)) rfl (Nat.zero_le _) (Nat.zero_le _) ?_
    exact ab_Wd_ret mt_ok hmi rfl rfl rfl (Nat.zero_le _) (Nat.zero_le _)
  rw [if_pos hA]
  refine cx_zf hmi rfl (tg := 42) rfl q1 ?_
  refine ab_Wd_step mt_ok hmi (en := (11, .iload_n 2, 1, (0, 0, 0, 0), [])) rfl (F := (12, [(0, .ref c), (1, .int a), (2, .int b), (3, .int w)], [.int b], h, n, 0, 0)) rfl (Nat.zero_le _) (Nat.zero_le _) ?_
  refine ab_Wd_step mt_ok hmi (en := (12, .iconst 1, 1, (0, 0, 0, 0), [])) rfl (F := (13, [(0, .ref c), (1, .int a), (2, .int b), (3, .int w)], [.int (Int32.ofInt 1), .int b], h, n, 0, 0)) rfl (Nat.zero_le _) (Nat.zero_le _) ?_
  refine ab_Wd_step mt_ok hmi (en := (13, .sipush 9999, 3, (0, 0, 0, 0), [])) rfl (F := (16, [(0, .ref c), (1, .int a), (2, .int b), (3, .int w)], [.int (Int16.ofInt 9999).toInt32, .int (Int32.ofInt 1), .int b], h, n, 0, 0)) rfl (Nat.zero_le _) (Nat.zero_le _) ?_
  refine cx_call hmi rfl rfl ⟨rfl, rfl⟩ (in_ok (d := d) b (Int32.ofInt 1) ((Int16.ofInt 9999).toInt32) h n) ?_
  rw [z1, z9]
  by_cases hB : 1 ≤ b.toInt ∧ b.toInt ≤ 9999
  case neg =>
    rw [if_neg hB]
    rw [show tmS a b w = (Int8.ofInt (-102)).toInt32 from by unfold tmS; rw [if_neg (by omega), cx_m102]]
    refine cx_zt hmi rfl (tg := 42) rfl q0 ?_
    refine ab_Wd_step mt_ok hmi (en := (42, .bipush (-102), 2, (0, 0, 0, 0), [])) rfl (F := (44, [(0, .ref c), (1, .int a), (2, .int b), (3, .int w)], [.int (Int8.ofInt (-102)).toInt32], h, n, 0, 0)) rfl (Nat.zero_le _) (Nat.zero_le _) ?_
    exact ab_Wd_ret mt_ok hmi rfl rfl rfl (Nat.zero_le _) (Nat.zero_le _)
  rw [if_pos hB]
  refine cx_zf hmi rfl (tg := 42) rfl q1 ?_
  refine ab_Wd_step mt_ok hmi (en := (22, .iload_n 3, 1, (0, 0, 0, 0), [])) rfl (F := (23, [(0, .ref c), (1, .int a), (2, .int b), (3, .int w)], [.int w], h, n, 0, 0)) rfl (Nat.zero_le _) (Nat.zero_le _) ?_
  refine ab_Wd_step mt_ok hmi (en := (23, .iconst 0, 1, (0, 0, 0, 0), [])) rfl (F := (24, [(0, .ref c), (1, .int a), (2, .int b), (3, .int w)], [.int (Int32.ofInt 0), .int w], h, n, 0, 0)) rfl (Nat.zero_le _) (Nat.zero_le _) ?_
  refine ab_Wd_step mt_ok hmi (en := (24, .iconst 1, 1, (0, 0, 0, 0), [])) rfl (F := (25, [(0, .ref c), (1, .int a), (2, .int b), (3, .int w)], [.int (Int32.ofInt 1), .int (Int32.ofInt 0), .int w], h, n, 0, 0)) rfl (Nat.zero_le _) (Nat.zero_le _) ?_
  refine cx_call hmi rfl rfl ⟨rfl, rfl⟩ (in_ok (d := d) w (Int32.ofInt 0) (Int32.ofInt 1) h n) ?_
  rw [z0, z1]
  have hS : tmS a b w = tmI a.toInt.toNat b.toInt.toNat w := if_pos ⟨hA, hB⟩
  obtain ⟨A, hA1, rfl, eA⟩ := ab_nn (x := a) (by omega)
  obtain ⟨B, hB1, rfl, eB⟩ := ab_nn (x := b) (by omega)
  rw [show (nI A).toInt.toNat = A by omega, show (nI B).toInt.toNat = B by omega] at hS
  rw [hS]
  by_cases hW : 0 ≤ w.toInt ∧ w.toInt ≤ 1
  · rw [if_pos hW]
    refine cx_zt hmi rfl (tg := 45) rfl q1n ?_
    exact rt_in (by omega) (by omega) (by omega) (Or.inl hW)
  · rw [if_neg hW]
    refine cx_zf hmi rfl (tg := 45) rfl q0n ?_
    refine ab_Wd_step mt_ok hmi (en := (31, .iload_n 3, 1, (0, 0, 0, 0), [])) rfl (F := (32, [(0, .ref c), (1, .int (nI A)), (2, .int (nI B)), (3, .int w)], [.int w], h, n, 0, 0)) rfl (Nat.zero_le _) (Nat.zero_le _) ?_
    refine ab_Wd_step mt_ok hmi (en := (32, .bipush 10, 2, (0, 0, 0, 0), [])) rfl (F := (34, [(0, .ref c), (1, .int (nI A)), (2, .int (nI B)), (3, .int w)], [.int (Int8.ofInt 10).toInt32, .int w], h, n, 0, 0)) rfl (Nat.zero_le _) (Nat.zero_le _) ?_
    refine ab_Wd_step mt_ok hmi (en := (34, .bipush 49, 2, (0, 0, 0, 0), [])) rfl (F := (36, [(0, .ref c), (1, .int (nI A)), (2, .int (nI B)), (3, .int w)], [.int (Int8.ofInt 49).toInt32, .int (Int8.ofInt 10).toInt32, .int w], h, n, 0, 0)) rfl (Nat.zero_le _) (Nat.zero_le _) ?_
    refine cx_call hmi rfl rfl ⟨rfl, rfl⟩ (in_ok (d := d) w (Int8.ofInt 10).toInt32 (Int8.ofInt 49).toInt32 h n) ?_
    rw [z10, z49]
    by_cases hV : 10 ≤ w.toInt ∧ w.toInt ≤ 49
    · rw [if_pos hV]
      refine cx_zt hmi rfl (tg := 45) rfl q1n ?_
      exact rt_in (by omega) (by omega) (by omega) (Or.inr hV)
    · rw [if_neg hV]
      rw [show tmI A B w = (Int8.ofInt (-102)).toInt32 from by unfold tmI; rw [if_neg (by omega), if_neg (by omega), if_neg (by omega), if_neg (by omega), cx_m102]]
      refine cx_zf hmi rfl (tg := 45) rfl q0n ?_
      refine ab_Wd_step mt_ok hmi (en := (42, .bipush (-102), 2, (0, 0, 0, 0), [])) rfl (F := (44, [(0, .ref c), (1, .int (nI A)), (2, .int (nI B)), (3, .int w)], [.int (Int8.ofInt (-102)).toInt32], h, n, 0, 0)) rfl (Nat.zero_le _) (Nat.zero_le _) ?_
      exact ab_Wd_ret mt_ok hmi rfl rfl rfl (Nat.zero_le _) (Nat.zero_le _)
end
section
/-! ===== the cells behind the constructors are as their kinds say ===== -/
def hs_ok (n : Nat) (v : Value) (τ : ab_Y) : Bool := match τ, v with
  | .inl (lo, hi, f), .int x => decide (lo ≤ x.toInt) && (decide (x.toInt ≤ hi) && (Nat.beq f 0 || (Nat.beq f 3 && ab_let.any fun z => decide (z = x.toInt))))
  | .inr none, .long _ => true
  | .inr (some M), .ref k => Nat.blt k n && M.testBit (ab_k k)
  | _, _ => false
theorem hs_ok_ok {n : Nat} {v : Value} {τ : ab_Y} (h : hs_ok n v τ = true) : ab_ok n v τ := by
  unfold hs_ok at h
  split at h
  · rename_i lo hi f x
    simp only [Bool.and_eq_true, Bool.or_eq_true, decide_eq_true_eq, Nat.beq_eq] at h
    refine ⟨x, rfl, h.1, h.2.1, ?_⟩
    rcases h.2.2 with rfl | ⟨rfl, h3⟩
    · exact trivial
    · obtain ⟨z, hz, hzz⟩ := List.any_eq_true.mp h3
      have : z = x.toInt := of_decide_eq_true hzz
      subst this
      exact hz
  · exact ⟨_, rfl⟩
  · rename_i M k
    simp only [Bool.and_eq_true, Nat.blt_eq] at h
    exact ⟨k, rfl, h.1, h.2⟩
  · cases h
def hs_fs (n : Nat) : List Value → List ab_Y → Bool
  | [], [] => true
  | v :: fs, τ :: τs => hs_ok n v τ && hs_fs n fs τs
  | _, _ => false
theorem hs_fs_ok {n : Nat} : ∀ {fs : List Value} {τs : List ab_Y}, hs_fs n fs τs = true → fs.length = τs.length ∧ ∀ (j : Nat) (v : Value), fs[j]? = some v → ∃ τ, τs[j]? = some τ ∧ ab_ok n v τ
  | [], [], _ => ⟨rfl, fun j v hv => by simp at hv⟩
  | v :: fs, τ :: τs, h => by
    simp only [hs_fs, Bool.and_eq_true] at h
    obtain ⟨i1, i2⟩ := hs_fs_ok h.2
    refine ⟨by simp [i1], fun j w hw => ?_⟩
    cases j with
    | zero =>
      simp only [List.getElem?_cons_zero, Option.some.injEq] at hw
      subst hw
      exact ⟨τ, rfl, hs_ok_ok h.1⟩
    | succ j =>
      simp only [List.getElem?_cons_succ] at hw ⊢
      exact i2 j w hw
  | [], _ :: _, h => by cases h
  | _ :: _, [], h => by cases h
def hs_cf (n : Nat) (S : ab_P) (d : ax_D) : Bool := match S, d with
  | .inl (t, N1, N2, τ, σ), .inl (t', N, .inl f) => Nat.beq t' t && (Nat.blt t 2 && (Nat.ble N1 N && (Nat.ble N N2 && (Nat.blt N2 2147483648 && (match f, σ with
    | [], [] => hs_ok n (.int 0) τ
    | _, _ => (List.range N).all fun i => hs_ok n (.int (ax_fi f i)) τ && hs_ok n (.int (ax_fi f i)) (σ.getD i τ))))))
  | .inl (t, N1, N2, τ, σ), .inl (t', N, .inr f) => Nat.beq t' t && (Nat.ble 2 t && (σ.isEmpty && (Nat.ble N1 N && (Nat.ble N N2 && (Nat.blt N2 2147483648 && ((List.range N).all fun i => match ax_fr f i with
    | some k => hs_ok n (.ref k) τ
    | none => false))))))
  | .inr (ci, τs), .inr (ci', fs) => Nat.beq ci' ci && hs_fs n fs τs
  | _, _ => false
theorem hs_cf_ok {n : Nat} {S : ab_P} {d : ax_D} (h : hs_cf n S d = true) : ab_cf n S d := by
  unfold hs_cf at h
  split at h
  · rename_i t N1 N2 τ σ t' N f
    simp only [Bool.and_eq_true, Nat.beq_eq, Nat.blt_eq, Nat.ble_eq] at h
    obtain ⟨h1, h2, h3, h4, h5, h6⟩ := h
    refine ⟨h1, h2, h3, h4, h5, fun i hi => ?_⟩
    split at h6
    · have h7 := hs_ok_ok h6
      exact ⟨h7, by rw [List.getD_eq_getElem?_getD]; exact h7⟩
    · have h7 := List.all_eq_true.mp h6 i (List.mem_range.mpr hi)
      simp only [Bool.and_eq_true] at h7
      exact ⟨hs_ok_ok h7.1, hs_ok_ok h7.2⟩
  · rename_i t N1 N2 τ σ t' N f
    simp only [Bool.and_eq_true, Nat.beq_eq, Nat.blt_eq, Nat.ble_eq, List.isEmpty_iff] at h
    obtain ⟨h1, h2, h3, h4, h5, h6, h7⟩ := h
    refine ⟨h1, h2, h3, h4, h5, h6, fun i hi => ?_⟩
    have h8 := List.all_eq_true.mp h7 i (List.mem_range.mpr hi)
    split at h8
    · rename_i k hk
      exact ⟨k, hk, hs_ok_ok h8⟩
    · cases h8
  · rename_i ci τs ci' fs
    simp only [Bool.and_eq_true, Nat.beq_eq] at h
    obtain ⟨h1, h2⟩ := h
    obtain ⟨h3, h4⟩ := hs_fs_ok h2
    exact ⟨h1, h3, h4⟩
  · cases h
def hs_all (h : ax_H) (n : Nat) : Bool := (List.range n).all fun k => match ax_raw h k, ab_K[ab_k k]? with
  | some d, some S => hs_cf n S d
  | _, _ => false
theorem hs_all_ok {h : ax_H} {n : Nat} (ha : hs_all h n = true) : ∀ k, k < n → ∃ d S, ax_raw h k = some d ∧ ab_K[ab_k k]? = some S ∧ ab_cf n S d := by
  intro k hk
  have h1 := List.all_eq_true.mp ha k (List.mem_range.mpr hk)
  split at h1
  · rename_i d S hd hS
    exact ⟨d, S, hd, hS, hs_cf_ok h1⟩
  · cases h1
set_option maxRecDepth 100000 in
theorem hs_made : hs_all lw_hm 573 = true := by decide +kernel
def hs_jB (h : ax_H) : Bool := (match ab_rd h 28 4 with
  | some (.ref w) => decide (ab_ri h 28 6 ≤ ab_ri h w (-1)) && decide (ab_ri h 28 7 ≤ ab_ri h w (-1))
  | _ => true) && (Nat.ble (ab_gc h 29 (ab_ri h 28 1).toNat) 3 && (decide (ab_ri h 28 1 ≤ ab_ri h 28 2) && (decide (ab_ri h 28 2 ≤ ab_ri h 28 1 + 1) && Nat.ble (ab_gc h 554 (ab_ri h 542 14).toNat) 3)))
theorem hs_jB_ok {h : ax_H} (hb : hs_jB h = true) : ab_J h := by
  unfold hs_jB at hb
  simp only [Bool.and_eq_true, Nat.ble_eq, decide_eq_true_eq] at hb
  obtain ⟨h1, h2, h3, h4, h5⟩ := hb
  refine ⟨⟨h2, h3, h4⟩, h5, fun w hw => ?_⟩
  rw [hw] at h1
  simp only [Bool.and_eq_true, decide_eq_true_eq] at h1
  exact h1
set_option maxRecDepth 100000 in
theorem hs_j : hs_jB lw_hm = true := by decide +kernel
theorem hs_HT : ab_HT lw_hm 573 := ⟨Nat.le_refl _, hs_all_ok hs_made, hs_jB_ok hs_j, by decide +kernel, by decide +kernel, by decide +kernel⟩
end
section
/-! ===== could, says, sure where no stone is read: over the table without costs (printed by wip/safe/mkz.py) ===== -/
def zz (mi : ax_MI) : ax_MI := (mi.1, mi.2.1, mi.2.2.1, mi.2.2.2.1, mi.2.2.2.2.1, mi.2.2.2.2.2.1, 0, 0, mi.2.2.2.2.2.2.2.2)
def z_prog : List ax_MI := mt_prog.map zz
theorem zz_get {j : Nat} {mi : ax_MI} (h : mt_prog[j]? = some mi) : z_prog[j]? = some (zz mi) := by
  unfold z_prog
  rw [List.getElem?_map, h]
  rfl
theorem zz_okW {own nm : String} {i : Instr} {pe : ax_PE} (h : ax_OkW mt_prog own nm i pe) : ax_OkW z_prog own nm i pe := by
  cases i with
  | invokestatic idx =>
    rcases h with h | ⟨h1, mi, h2, h3⟩
    · exact Or.inl h
    · exact Or.inr ⟨h1, zz mi, zz_get h2, h3⟩
  | invokevirtual idx =>
    obtain ⟨mi, T, N, h1, h2⟩ := h
    exact ⟨zz mi, T, N, zz_get h1, h2⟩
  | invokespecial idx =>
    rcases h with h | ⟨h1, mi, h2, h3⟩
    · exact Or.inl h
    · exact Or.inr ⟨h1, zz mi, zz_get h2, h3⟩
  | _ => exact h
theorem z_ok : ax_Prog z_prog := by
  intro mi hmi
  obtain ⟨m0, hm0, rfl⟩ := List.mem_map.mp hmi
  obtain ⟨h1, h2, h3, h4⟩ := mt_ok m0 hm0
  exact ⟨h1, h2, h3, fun ch hch en hen => ⟨(h4 ch hch en hen).1, (h4 ch hch en hen).2.1, zz_okW (h4 ch hch en hen).2.2⟩⟩
def zq_0 : ab_Q := (145, 1, ([(0, av_k 0), (1, av_s 0)], [], [.inl ((-2147483648), 2147483647, 0)], [], [(av_k 28, av_c 1, av_c 0)], [], 0, 0), [], [([], [av_c 0], [.inl ((-2147483648), 2147483647, 0)], [], [], [], 0, 0)])  -- mt_X10_readStone
def zq_1 : ab_Q := (145, 1, ([(0, av_k 0), (1, av_s 0)], [], [.inl ((-2147483648), 2147483647, 0)], [], [(av_k 0, av_c 10, av_c 30)], [], 0, 0), [], [([], [av_c 0], [.inl ((-2147483648), 2147483647, 0)], [], [], [], 0, 0)])  -- mt_X10_readStone
def zq_2 : ab_Q := (126, 2, ([(0, av_k 0), (1, av_s 0)], [], [.inl ((-2147483648), 2147483647, 0)], [], [(av_k 28, av_c 1, av_c 0)], [], 0, 0), [], [([], [av_s 1], [.inl ((-2147483648), 2147483647, 0), .inl ((-2147483648), 2147483647, 0)], [], [], [], 0, 0)])  -- mt_X10_could
def zq_3 : ab_Q := (126, 2, ([(0, av_k 0), (1, av_s 0)], [], [.inl ((-2147483648), 2147483647, 0)], [], [(av_k 0, av_c 10, av_c 30)], [], 0, 0), [], [([], [av_s 1], [.inl ((-2147483648), 2147483647, 0), .inl ((-2147483648), 2147483647, 0)], [], [], [], 0, 0)])  -- mt_X10_could
def zq_4 : ab_Q := (126, 2, ([(0, av_k 0), (1, av_s 0)], [], [.inl ((-2147483648), (-1), 0)], [], [], [], 0, 0), [], [([], [av_s 1], [.inl ((-2147483648), (-1), 0), .inl ((-2147483648), 2147483647, 0)], [], [], [], 0, 0)])  -- mt_X10_could
def zq_5 : ab_Q := (126, 2, ([(0, av_k 0), (1, av_s 0)], [], [.inl ((-2147483648), 2147483647, 0), .inl (0, 6, 0)], [(1, 0, 0)], [(av_k 0, av_c 8, av_s 1)], [], 0, 0), [], [([], [av_s 2], [.inl ((-2147483648), 2147483647, 0), .inl (0, 6, 0), .inl ((-2147483648), 2147483647, 0)], [], [], [], 0, 0)])  -- mt_X10_could
def zq_6 : ab_Q := (127, 2, ([(0, av_k 0), (1, av_s 0), (2, av_s 1)], [], [.inl ((-2147483648), 2147483647, 0), .inl ((-2147483648), 2147483647, 0)], [], [(av_k 28, av_c 1, av_c 0)], [], 0, 0), [], [([], [av_s 2], [.inl ((-2147483648), 2147483647, 0), .inl ((-2147483648), 2147483647, 0), .inl ((-2147483648), 2147483647, 0)], [], [], [], 0, 0)])  -- mt_X10_says
def zq_7 : ab_Q := (127, 2, ([(0, av_k 0), (1, av_s 0), (2, av_s 1)], [], [.inl ((-2147483648), 2147483647, 0), .inl ((-2147483648), 2147483647, 0)], [], [(av_k 0, av_c 10, av_c 30)], [], 0, 0), [], [([], [av_s 2], [.inl ((-2147483648), 2147483647, 0), .inl ((-2147483648), 2147483647, 0), .inl ((-2147483648), 2147483647, 0)], [], [], [], 0, 0)])  -- mt_X10_says
def zq_8 : ab_Q := (127, 2, ([(0, av_k 0), (1, av_s 0), (2, av_s 1)], [], [.inl ((-2147483648), (-1), 0), .inl ((-2147483648), 2147483647, 0)], [], [], [], 0, 0), [], [([], [av_s 2], [.inl ((-2147483648), (-1), 0), .inl ((-2147483648), 2147483647, 0), .inl ((-2147483648), 2147483647, 0)], [], [], [], 0, 0)])  -- mt_X10_says
def zq_9 : ab_Q := (127, 2, ([(0, av_k 0), (1, av_s 0), (2, av_s 1)], [], [.inl ((-2147483648), 2147483647, 0), .inl ((-2147483648), 2147483647, 0), .inl (0, 6, 0)], [(2, 0, 0)], [(av_k 0, av_c 8, av_s 2)], [], 0, 0), [], [([], [av_s 3], [.inl ((-2147483648), 2147483647, 0), .inl ((-2147483648), 2147483647, 0), .inl (0, 6, 0), .inl ((-2147483648), 2147483647, 0)], [], [], [], 0, 0)])  -- mt_X10_says
def zq_10 : ab_Q := (128, 2, ([(0, av_k 0), (1, av_s 0), (2, av_s 1)], [], [.inl ((-2147483648), 2147483647, 0), .inl ((-2147483648), 2147483647, 0)], [], [(av_k 28, av_c 1, av_c 0)], [], 0, 0), [], [([], [av_s 2], [.inl ((-2147483648), 2147483647, 0), .inl ((-2147483648), 2147483647, 0), .inl ((-2147483648), 2147483647, 0)], [], [], [], 0, 0)])  -- mt_X10_sure
def zq_11 : ab_Q := (128, 2, ([(0, av_k 0), (1, av_s 0), (2, av_s 1)], [], [.inl ((-2147483648), 2147483647, 0), .inl ((-2147483648), 2147483647, 0)], [], [(av_k 0, av_c 10, av_c 30)], [], 0, 0), [], [([], [av_s 2], [.inl ((-2147483648), 2147483647, 0), .inl ((-2147483648), 2147483647, 0), .inl ((-2147483648), 2147483647, 0)], [], [], [], 0, 0)])  -- mt_X10_sure
def zq_12 : ab_Q := (128, 2, ([(0, av_k 0), (1, av_s 0), (2, av_s 1)], [], [.inl ((-2147483648), (-1), 0), .inl ((-2147483648), 2147483647, 0)], [], [], [], 0, 0), [], [([], [av_s 2], [.inl ((-2147483648), (-1), 0), .inl ((-2147483648), 2147483647, 0), .inl ((-2147483648), 2147483647, 0)], [], [], [], 0, 0)])  -- mt_X10_sure
def zq_13 : ab_Q := (128, 2, ([(0, av_k 0), (1, av_s 0), (2, av_s 1)], [], [.inl ((-2147483648), 2147483647, 0), .inl ((-2147483648), 2147483647, 0), .inl (0, 6, 0)], [(2, 0, 0)], [(av_k 0, av_c 8, av_s 2)], [], 0, 0), [], [([], [av_s 3], [.inl ((-2147483648), 2147483647, 0), .inl ((-2147483648), 2147483647, 0), .inl (0, 6, 0), .inl ((-2147483648), 2147483647, 0)], [], [], [], 0, 0)])  -- mt_X10_sure
def zq_14 : ab_Q := (128, 2, ([(0, av_k 0), (1, av_s 0), (2, av_s 1)], [], [.inl ((-2147483648), 2147483647, 0), .inl ((-2147483648), (-1), 0)], [], [], [], 0, 0), [], [([], [av_s 2], [.inl ((-2147483648), 2147483647, 0), .inl ((-2147483648), (-1), 0), .inl ((-2147483648), 2147483647, 0)], [], [], [], 0, 0)])  -- mt_X10_sure
def zq_15 : ab_Q := (128, 2, ([(0, av_k 0), (1, av_s 0), (2, av_s 1)], [], [.inl ((-2147483648), 2147483647, 0), .inl (20, 2147483647, 0)], [], [], [], 0, 0), [], [([], [av_s 2], [.inl ((-2147483648), 2147483647, 0), .inl (20, 2147483647, 0), .inl ((-2147483648), 2147483647, 0)], [], [], [], 0, 0)])  -- mt_X10_sure
def z_cs : List ab_Q := [zq_0, zq_1, zq_2, zq_3, zq_4, zq_5, zq_6, zq_7, zq_8, zq_9, zq_10, zq_11, zq_12, zq_13, zq_14, zq_15]
def z_cd : List (List Nat) := (List.range 240).map fun j => bif Nat.beq j 145 then [0, 1] else []
set_option maxRecDepth 100000 in
theorem zk_0 : ab_chkE z_prog cs_mt z_cd z_cs 0 zq_0 (zz mt_X10_readStone) [] = true := by decide +kernel
set_option maxRecDepth 100000 in
theorem zk_1 : ab_chkE z_prog cs_mt z_cd z_cs 1 zq_1 (zz mt_X10_readStone) [] = true := by decide +kernel
set_option maxRecDepth 100000 in
theorem zk_2 : ab_chkE z_prog cs_mt z_cd z_cs 2 zq_2 (zz mt_X10_could) [] = true := by decide +kernel
set_option maxRecDepth 100000 in
theorem zk_3 : ab_chkE z_prog cs_mt z_cd z_cs 3 zq_3 (zz mt_X10_could) [] = true := by decide +kernel
set_option maxRecDepth 100000 in
theorem zk_4 : ab_chkE z_prog cs_mt z_cd z_cs 4 zq_4 (zz mt_X10_could) [] = true := by decide +kernel
set_option maxRecDepth 100000 in
theorem zk_5 : ab_chkE z_prog cs_mt z_cd z_cs 5 zq_5 (zz mt_X10_could) [] = true := by decide +kernel
set_option maxRecDepth 100000 in
theorem zk_6 : ab_chkE z_prog cs_mt z_cd z_cs 6 zq_6 (zz mt_X10_says) [] = true := by decide +kernel
set_option maxRecDepth 100000 in
theorem zk_7 : ab_chkE z_prog cs_mt z_cd z_cs 7 zq_7 (zz mt_X10_says) [] = true := by decide +kernel
set_option maxRecDepth 100000 in
theorem zk_8 : ab_chkE z_prog cs_mt z_cd z_cs 8 zq_8 (zz mt_X10_says) [] = true := by decide +kernel
set_option maxRecDepth 100000 in
theorem zk_9 : ab_chkE z_prog cs_mt z_cd z_cs 9 zq_9 (zz mt_X10_says) [] = true := by decide +kernel
set_option maxRecDepth 100000 in
theorem zk_10 : ab_chkE z_prog cs_mt z_cd z_cs 10 zq_10 (zz mt_X10_sure) [] = true := by decide +kernel
set_option maxRecDepth 100000 in
theorem zk_11 : ab_chkE z_prog cs_mt z_cd z_cs 11 zq_11 (zz mt_X10_sure) [] = true := by decide +kernel
set_option maxRecDepth 100000 in
theorem zk_12 : ab_chkE z_prog cs_mt z_cd z_cs 12 zq_12 (zz mt_X10_sure) [] = true := by decide +kernel
set_option maxRecDepth 100000 in
theorem zk_13 : ab_chkE z_prog cs_mt z_cd z_cs 13 zq_13 (zz mt_X10_sure) [] = true := by decide +kernel
set_option maxRecDepth 100000 in
theorem zk_14 : ab_chkE z_prog cs_mt z_cd z_cs 14 zq_14 (zz mt_X10_sure) [] = true := by decide +kernel
set_option maxRecDepth 100000 in
theorem zk_15 : ab_chkE z_prog cs_mt z_cd z_cs 15 zq_15 (zz mt_X10_sure) [] = true := by decide +kernel
section ZY
variable {l : Launch} {G : ax_T}
theorem z_up {CS : List ab_Q} {i : Nat} {q : ab_Q} (h : ∀ c Q, c < i → CS[c]? = some Q → ab_QOk l G z_prog Q) (hq : CS[i]? = some q) (hk : ab_QOk l G z_prog q) : ∀ c Q, c < i + 1 → CS[c]? = some Q → ab_QOk l G z_prog Q := fun c Q hc hQ => by
  by_cases e : c = i
  · subst e
    rw [hq] at hQ
    cases hQ
    exact hk
  · exact h c Q (by omega) hQ
theorem zy_0 : ∀ c Q, c < 0 → z_cs[c]? = some Q → ab_QOk l G z_prog Q := fun c Q hc => absurd hc (Nat.not_lt_zero c)
theorem zy_1 : ∀ c Q, c < 1 → z_cs[c]? = some Q → ab_QOk l G z_prog Q := z_up (q := zq_0) zy_0 rfl (ab_con_ok z_ok zy_0 (zz_get mi_X10_readStone) rfl zk_0 (fun c hc => nomatch hc))
theorem zy_2 : ∀ c Q, c < 2 → z_cs[c]? = some Q → ab_QOk l G z_prog Q := z_up (q := zq_1) zy_1 rfl (ab_con_ok z_ok zy_1 (zz_get mi_X10_readStone) rfl zk_1 (fun c hc => nomatch hc))
theorem zy_3 : ∀ c Q, c < 3 → z_cs[c]? = some Q → ab_QOk l G z_prog Q := z_up (q := zq_2) zy_2 rfl (ab_con_ok z_ok zy_2 (zz_get mi_X10_could) rfl zk_2 (fun c hc => nomatch hc))
theorem zy_4 : ∀ c Q, c < 4 → z_cs[c]? = some Q → ab_QOk l G z_prog Q := z_up (q := zq_3) zy_3 rfl (ab_con_ok z_ok zy_3 (zz_get mi_X10_could) rfl zk_3 (fun c hc => nomatch hc))
theorem zy_5 : ∀ c Q, c < 5 → z_cs[c]? = some Q → ab_QOk l G z_prog Q := z_up (q := zq_4) zy_4 rfl (ab_con_ok z_ok zy_4 (zz_get mi_X10_could) rfl zk_4 (fun c hc => nomatch hc))
theorem zy_6 : ∀ c Q, c < 6 → z_cs[c]? = some Q → ab_QOk l G z_prog Q := z_up (q := zq_5) zy_5 rfl (ab_con_ok z_ok zy_5 (zz_get mi_X10_could) rfl zk_5 (fun c hc => nomatch hc))
theorem zy_7 : ∀ c Q, c < 7 → z_cs[c]? = some Q → ab_QOk l G z_prog Q := z_up (q := zq_6) zy_6 rfl (ab_con_ok z_ok zy_6 (zz_get mi_X10_says) rfl zk_6 (fun c hc => nomatch hc))
theorem zy_8 : ∀ c Q, c < 8 → z_cs[c]? = some Q → ab_QOk l G z_prog Q := z_up (q := zq_7) zy_7 rfl (ab_con_ok z_ok zy_7 (zz_get mi_X10_says) rfl zk_7 (fun c hc => nomatch hc))
theorem zy_9 : ∀ c Q, c < 9 → z_cs[c]? = some Q → ab_QOk l G z_prog Q := z_up (q := zq_8) zy_8 rfl (ab_con_ok z_ok zy_8 (zz_get mi_X10_says) rfl zk_8 (fun c hc => nomatch hc))
theorem zy_10 : ∀ c Q, c < 10 → z_cs[c]? = some Q → ab_QOk l G z_prog Q := z_up (q := zq_9) zy_9 rfl (ab_con_ok z_ok zy_9 (zz_get mi_X10_says) rfl zk_9 (fun c hc => nomatch hc))
theorem zy_11 : ∀ c Q, c < 11 → z_cs[c]? = some Q → ab_QOk l G z_prog Q := z_up (q := zq_10) zy_10 rfl (ab_con_ok z_ok zy_10 (zz_get mi_X10_sure) rfl zk_10 (fun c hc => nomatch hc))
theorem zy_12 : ∀ c Q, c < 12 → z_cs[c]? = some Q → ab_QOk l G z_prog Q := z_up (q := zq_11) zy_11 rfl (ab_con_ok z_ok zy_11 (zz_get mi_X10_sure) rfl zk_11 (fun c hc => nomatch hc))
theorem zy_13 : ∀ c Q, c < 13 → z_cs[c]? = some Q → ab_QOk l G z_prog Q := z_up (q := zq_12) zy_12 rfl (ab_con_ok z_ok zy_12 (zz_get mi_X10_sure) rfl zk_12 (fun c hc => nomatch hc))
theorem zy_14 : ∀ c Q, c < 14 → z_cs[c]? = some Q → ab_QOk l G z_prog Q := z_up (q := zq_13) zy_13 rfl (ab_con_ok z_ok zy_13 (zz_get mi_X10_sure) rfl zk_13 (fun c hc => nomatch hc))
theorem zy_15 : ∀ c Q, c < 15 → z_cs[c]? = some Q → ab_QOk l G z_prog Q := z_up (q := zq_14) zy_14 rfl (ab_con_ok z_ok zy_14 (zz_get mi_X10_sure) rfl zk_14 (fun c hc => nomatch hc))
theorem zy_16 : ∀ c Q, c < 16 → z_cs[c]? = some Q → ab_QOk l G z_prog Q := z_up (q := zq_15) zy_15 rfl (ab_con_ok z_ok zy_15 (zz_get mi_X10_sure) rfl zk_15 (fun c hc => nomatch hc))
end ZY
end
section
/-! ===== could, says, sure where a stone is read: they are counted (printed by wip/safe/mkz.py) ===== -/
def yq_0 : ab_Q := (145, 27, ([(0, av_k 0), (1, av_s 0)], [], [.inl (0, 5, 0), .inl (0, 6, 0), .inl (0, 29, 0), .inl (1, 20, 0)], [(0, 1, (-1))], [(av_k 0, av_c 8, av_s 1), (av_k 0, av_c 10, av_s 2), (av_k 28, av_c 1, av_s 3)], [], 0, 0), [(55834574848, (-2)), (2147483648, 1), (1073741824, 4), (1073741824, 6), (1073741824, 7), (1073741824, 8), (1, 10)], [([], [av_c 1], [.inl (0, 5, 0), .inl (0, 6, 0), .inl (0, 29, 0), .inl (1, 20, 0), .inl (1, 30, 0)], [(2, 4, (-1))], [(av_k 0, av_c 10, av_s 4)], [], 0, 0)])  -- X10_readStone
def yq_1 : ab_Q := (126, 28, ([(0, av_k 0), (1, av_s 0)], [], [.inl (0, 5, 0), .inl (0, 6, 0), .inl (0, 29, 0), .inl (1, 20, 0)], [(0, 1, (-1))], [(av_k 0, av_c 8, av_s 1), (av_k 0, av_c 10, av_s 2), (av_k 28, av_c 1, av_s 3)], [], 0, 0), [(55834574848, (-2)), (2147483648, 1), (1073741824, 4), (1073741824, 6), (1073741824, 7), (1073741824, 8), (1, 10)], [([], [av_s 4], [.inl (0, 5, 0), .inl (0, 6, 0), .inl (0, 29, 0), .inl (1, 20, 0), .inl ((-2147483648), 2147483647, 0), .inl (1, 30, 0)], [(2, 5, (-1))], [(av_k 0, av_c 10, av_s 5)], [], 0, 0)])  -- X10_could
def yq_2 : ab_Q := (127, 28, ([(0, av_k 0), (1, av_s 0), (2, av_s 1)], [], [.inl (0, 5, 0), .inl ((-2147483648), 2147483647, 0), .inl (0, 6, 0), .inl (0, 29, 0), .inl (1, 20, 0)], [(0, 2, (-1))], [(av_k 0, av_c 8, av_s 2), (av_k 0, av_c 10, av_s 3), (av_k 28, av_c 1, av_s 4)], [], 0, 0), [(55834574848, (-2)), (2147483648, 1), (1073741824, 4), (1073741824, 6), (1073741824, 7), (1073741824, 8), (1, 10)], [([], [av_s 5], [.inl (0, 5, 0), .inl ((-2147483648), 2147483647, 0), .inl (0, 6, 0), .inl (0, 29, 0), .inl (1, 20, 0), .inl ((-2147483648), 2147483647, 0), .inl (1, 30, 0)], [(3, 6, (-1))], [(av_k 0, av_c 10, av_s 6)], [], 0, 0)])  -- X10_says
def yq_3 : ab_Q := (128, 28, ([(0, av_k 0), (1, av_s 0), (2, av_s 1)], [], [.inl (0, 5, 0), .inl (0, 19, 0), .inl (0, 6, 0), .inl (0, 29, 0), .inl (1, 20, 0)], [(0, 2, (-1))], [(av_k 0, av_c 8, av_s 2), (av_k 0, av_c 10, av_s 3), (av_k 28, av_c 1, av_s 4)], [], 0, 0), [(55834574848, (-2)), (2147483648, 1), (1073741824, 4), (1073741824, 6), (1073741824, 7), (1073741824, 8), (1, 10)], [([], [av_s 5], [.inl (0, 5, 0), .inl (0, 19, 0), .inl (0, 6, 0), .inl (0, 29, 0), .inl (1, 20, 0), .inl ((-2147483648), 2147483647, 0), .inl (1, 30, 0)], [(3, 6, (-1))], [(av_k 0, av_c 10, av_s 6)], [], 0, 0)])  -- X10_sure
def y_cs : List ab_Q := cs_all ++ [yq_0, yq_1, yq_2, yq_3]
def y_cd : List (List Nat) := cs_cd.set 145 [222]
set_option maxRecDepth 100000 in
theorem yk_0 : ab_chkE mt_prog cs_mt y_cd y_cs 222 yq_0 mt_X10_readStone [] = true := by decide +kernel
set_option maxRecDepth 100000 in
theorem yk_1 : ab_chkE mt_prog cs_mt y_cd y_cs 223 yq_1 mt_X10_could [] = true := by decide +kernel
set_option maxRecDepth 100000 in
theorem yk_2 : ab_chkE mt_prog cs_mt y_cd y_cs 224 yq_2 mt_X10_says [] = true := by decide +kernel
set_option maxRecDepth 100000 in
theorem yk_3 : ab_chkE mt_prog cs_mt y_cd y_cs 225 yq_3 mt_X10_sure [] = true := by decide +kernel
section YY
variable {l : Launch} {G : ax_T}
theorem yy_0 (H : ab_Hand l G) : ∀ c Q, c < 222 → y_cs[c]? = some Q → ab_QOk l G mt_prog Q := fun c Q hc hQ => by
  unfold y_cs at hQ
  rw [List.getElem?_append_left (show c < cs_all.length from hc)] at hQ
  exact cy_222 H c Q hc hQ
theorem yy_1 (H : ab_Hand l G) : ∀ c Q, c < 223 → y_cs[c]? = some Q → ab_QOk l G mt_prog Q := ab_up (q := yq_0) (yy_0 H) rfl (ab_con_ok mt_ok (yy_0 H) mi_X10_readStone rfl yk_0 (fun c hc => nomatch hc))
theorem yy_2 (H : ab_Hand l G) : ∀ c Q, c < 224 → y_cs[c]? = some Q → ab_QOk l G mt_prog Q := ab_up (q := yq_1) (yy_1 H) rfl (ab_con_ok mt_ok (yy_1 H) mi_X10_could rfl yk_1 (fun c hc => nomatch hc))
theorem yy_3 (H : ab_Hand l G) : ∀ c Q, c < 225 → y_cs[c]? = some Q → ab_QOk l G mt_prog Q := ab_up (q := yq_2) (yy_2 H) rfl (ab_con_ok mt_ok (yy_2 H) mi_X10_says rfl yk_2 (fun c hc => nomatch hc))
theorem yy_4 (H : ab_Hand l G) : ∀ c Q, c < 226 → y_cs[c]? = some Q → ab_QOk l G mt_prog Q := ab_up (q := yq_3) (yy_3 H) rfl (ab_con_ok mt_ok (yy_3 H) mi_X10_sure rfl yk_3 (fun c hc => nomatch hc))
end YY
end
section
/-! THE CLAIM OUT OF ONE WALK OF THE LAW'S BODY. Your part is whole_start (and what it stands on); all else here is the same for every law, but numbers. -/
def R_law : String := "LetterSumsLaw"
def lw_P (b : Addr) (xs : List Int32) (args : Array Value) (s : State) : Prop := args = #[.ref b] ∧ s.IntsAt b xs ∧ xs.length ≤ 2560 ∧ (Jvm.Cond.and given_1 narrow_1).before args s = true
def lw_Q (_ : Array Value) (s : State) (o : Outcome) (t : State) : Prop := o = .returned (some (.int 1)) ∧ Framed s o t [] 600000 7302250
def lw_Z (below : List Frame) (a : Array Value) (s : State) : State → Prop := fun t => ∃ o, t.status = .running ∧ Ended t below o ∧ lw_Q a s o t
/-- the law's own end, with 1 on the stack, nothing written that was there before, its room as the claim has it -/
theorem lw_ret {p : Program} {l : Launch} {e : Env} {s : State} {m : MethodId} {below : List Frame} {meth : Method} {c : Code} {b : Nat} (hx : p.tables.exec = Jvm.exec) (hb : c.code = code) (hr : meth.sig.returnType = ret) (hlocks : meth.locks = false) {pc : Nat} {H : Heap} {ls : Array Slot} (hdg : decode code pc = .ok (.ireturn, 1)) : W p l e room_1 s m #[Value.ref b] below meth c H [] 600000 7302250 (lw_Z below #[Value.ref b] s) (F0 m pc ls [.int 1]) := by
  intro T hT X
  obtain ⟨fs, hret, hrun, hended, hW, hframe⟩ := X.leave (v := some (.int 1)) (hlocks := hlocks) (fun h => by rw [hr] at h; cases h)
  have hmeth' : T.vm.method? m = some meth := X.method'
  refine ⟨T.setFrames fs, ?_, .returned (some (.int 1)), hrun, hended, rfl, ⟨_, rfl⟩, hW, hframe⟩
  jvm_step X.here [X.here.top, hx, hb, hdg, hmeth', hr, ret, narrow_b1]
  (try refine ⟨rfl, ?_⟩); (try refine ⟨rfl, ?_⟩)
  first | (intro acts; rw [hret _ acts rfl rfl rfl]) | rw [hret _ _ rfl rfl rfl]
  exact Steps.refl _
/-- what holds at the law's entry: the machine, the code, the tables' words (any of lw_tbl by 'hts w (by decide +kernel)'), the script of L ints xs at the cell b, what the Statement gives of the start (any of its parts by flat_of_before) -/
def lw_At (p : Program) (s : State) (m : MethodId) (meth : Method) (c : Code) (b L : Nat) (xs : Nat → Int32) : Prop :=
  p.tables.exec = Jvm.exec ∧ c.code = code ∧ meth.sig.returnType = ret ∧ c.maxLocals = 4 ∧ s.vm.findClass R_law = some m.cls ∧ (∀ w ∈ lw_tbl, w.before #[Value.ref b] s = true) ∧ va_X b L xs s s.heap ∧ b < s.heap.size ∧ meth.locks = false ∧ (Jvm.Cond.and given_1 narrow_1).before #[Value.ref b] s = true
theorem ax_Ok_nm {prog : List ax_MI} {own nm nm' : String} {cc : ByteArray} {pc len : Nat} {i : Instr} {pe : ax_PE} (hn : nm ≠ "<init>") (h : ax_Ok prog own nm cc pc i len pe) : ax_Ok prog own nm' cc pc i len pe := by
  obtain ⟨h1, h2, h3⟩ := h
  refine ⟨h1, h2, ?_⟩
  cases i with
  | putfield idx =>
    obtain ⟨C, T, N, a1, a2, a3⟩ := h3
    rcases a3 with a3 | ⟨-, -, a3, -⟩
    · exact ⟨C, T, N, a1, a2, Or.inl a3⟩
    · exact absurd a3 hn
  | _ => exact h3
/-! ===== the law's body, step by step ===== -/
/-- what stands while the law runs: the machine, its script of L ints xs -/
def lx_C (G : ax_T) (p : Program) (s : State) (m : MethodId) (meth : Method) (c : Code) (b L : Nat) (xs : Nat → Int32) : Prop := ax_M G p s m #[Value.ref b] meth c "LetterSumsLaw" code 4 ∧ meth.sig.returnType = ret ∧ G.2.1 = s.heap.size ∧ G.2.2.1 = s.heap ∧ G.2.2.2.2.1 2 = b ∧ b < s.heap.size ∧ va_X b L xs s s.heap
/-- from here the law answers 1 -/
def lx_W (G : ax_T) (p : Program) (l : Launch) (e : Env) (s : State) (m : MethodId) (below : List Frame) (meth : Method) (c : Code) (b : Nat) (F : ax_F) : Prop := ax_WF G p l e room_1 s m #[Value.ref b] below meth c (lw_Z below #[Value.ref b] s) 4 F
section LX
variable {G : ax_T} {p : Program} {l : Launch} {e : Env} {s : State} {m : MethodId} {below : List Frame} {meth : Method} {c : Code} {b L : Nat} {xs : Nat → Int32}
variable {pc tg len : Nat} {lv : List (Nat × Value)} {st : List Value} {h : ax_H} {n cs ss : Nat} {en : ax_EN} {x y : Int32} {cc : ClassFile.Cond} {off : Int} {pe : ax_PE} {hs : List Nat}
theorem lx_ok (ha : ax_at lw_tab pc = some en) : ax_Ok mt_prog "LetterSumsLaw" meth.name code pc en.2.1 en.2.2.1 en.2.2.2.1 := by
  obtain ⟨hpc, ch, hch, hen⟩ := ax_at_ok ha
  have := lw_tab_ok ch hch en hen
  rw [hpc] at this
  exact ax_Ok_nm (by decide) this
theorem lx_step (C : lx_C G p s m meth c b L xs) (ha : ax_at lw_tab pc = some en) {F : ax_F} (hst : ax_step (ab_io G) 4 en.2.1 en.2.2.2.1 pc lv st h n cs ss = some F) (h1 : F.2.2.2.2.2.1 ≤ 600000) (h2 : F.2.2.2.2.2.2 ≤ 7302250) (hW : lx_W G p l e s m below meth c b F) : lx_W G p l e s m below meth c b (pc, lv, st, h, n, cs, ss) :=
  ax_step_ok C.1 rfl (iv := ab_io G) (fun u => ⟨Int.le_refl _, Int.le_refl _⟩) (lx_ok ha) hst ⟨h1, h2, by decide, by decide⟩ hW
theorem lx_brt (C : lx_C G p s m meth c b L xs) (ha : ax_at lw_tab pc = some (pc, .if_icmp cc off, len, pe, hs)) (ht : ax_to pc off = some tg) (hc : ax_holds cc x y) (h1 : cs ≤ 600000) (h2 : ss ≤ 7302250) (hW : lx_W G p l e s m below meth c b (tg, lv, st, h, n, cs, ss)) : lx_W G p l e s m below meth c b (pc, lv, .int y :: .int x :: st, h, n, cs, ss) :=
  lx_step C ha (cx_brt (G := G) ht hc cs ss) h1 h2 hW
theorem lx_brf (C : lx_C G p s m meth c b L xs) (ha : ax_at lw_tab pc = some (pc, .if_icmp cc off, len, pe, hs)) (ht : ax_to pc off = some tg) (hc : ¬ ax_holds cc x y) (h1 : cs ≤ 600000) (h2 : ss ≤ 7302250) (hW : lx_W G p l e s m below meth c b (pc + 3, lv, st, h, n, cs, ss)) : lx_W G p l e s m below meth c b (pc, lv, .int y :: .int x :: st, h, n, cs, ss) :=
  lx_step C ha (cx_brf (G := G) ht hc cs ss) h1 h2 hW
theorem lx_zt (C : lx_C G p s m meth c b L xs) (ha : ax_at lw_tab pc = some (pc, .ifCond cc off, len, pe, hs)) (ht : ax_to pc off = some tg) (hc : ax_holds cc x 0) (h1 : cs ≤ 600000) (h2 : ss ≤ 7302250) (hW : lx_W G p l e s m below meth c b (tg, lv, st, h, n, cs, ss)) : lx_W G p l e s m below meth c b (pc, lv, .int x :: st, h, n, cs, ss) :=
  lx_step C ha (cx_brt (G := G) ht hc cs ss) h1 h2 hW
theorem lx_zf (C : lx_C G p s m meth c b L xs) (ha : ax_at lw_tab pc = some (pc, .ifCond cc off, len, pe, hs)) (ht : ax_to pc off = some tg) (hc : ¬ ax_holds cc x 0) (h1 : cs ≤ 600000) (h2 : ss ≤ 7302250) (hW : lx_W G p l e s m below meth c b (pc + 3, lv, st, h, n, cs, ss)) : lx_W G p l e s m below meth c b (pc, lv, .int x :: st, h, n, cs, ss) :=
  lx_step C ha (cx_brf (G := G) ht hc cs ss) h1 h2 hW
theorem lx_len (C : lx_C G p s m meth c b L xs) (hd : decode code pc = .ok (.arraylength, 1)) (hW : lx_W G p l e s m below meth c b (pc + 1, lv, .int (Int32.ofNat L) :: st, h, n, cs, ss)) : lx_W G p l e s m below meth c b (pc, lv, .retAddr 2 :: st, h, n, cs, ss) := by
  obtain ⟨M, -, hB, hH, hso, hbl, hX⟩ := C
  intro ls H locs hl hR hL
  have hv : ax_v G (.retAddr 2) = .ref b := by show Value.ref _ = _; rw [hso]
  simp only [List.map_cons, hv]
  exact ax_scr_len M.1 M.2.1 (ax_scr (by rw [hH]; exact hX) (by rw [hB]; exact hbl) hR) hd (hW ls H locs hl hR hL)
theorem lx_at (C : lx_C G p s m meth c b L xs) {i : Int32} (h0 : 0 ≤ i.toInt) (hi : i.toInt < L) (hd : decode code pc = .ok (.iaload, 1)) (hW : lx_W G p l e s m below meth c b (pc + 1, lv, .int (xs i.toNatClampNeg) :: st, h, n, cs, ss)) : lx_W G p l e s m below meth c b (pc, lv, .int i :: .retAddr 2 :: st, h, n, cs, ss) := by
  obtain ⟨M, -, hB, hH, hso, hbl, hX⟩ := C
  intro ls H locs hl hR hL
  have hv : ax_v G (.retAddr 2) = .ref b := by show Value.ref _ = _; rw [hso]
  have hin : vp_in i L := by
    rintro (q | q)
    · have := cx_lt.mp q
      have h00 : (0 : Int32).toInt = 0 := rfl
      omega
    · have : L ≤ i.toInt.toNat := q
      omega
  simp only [List.map_cons, hv]
  exact ax_scr_at M.1 M.2.1 (ax_scr (by rw [hH]; exact hX) (by rw [hB]; exact hbl) hR) hin hd (hW ls H locs hl hR hL)
theorem lx_pop2 (C : lx_C G p s m meth c b L xs) {z : Int64} (hd : decode code pc = .ok (.pop2, 1)) (hW : lx_W G p l e s m below meth c b (pc + 1, lv, st, h, n, cs, ss)) : lx_W G p l e s m below meth c b (pc, lv, .long z :: st, h, n, cs, ss) := fun ls H locs hl hR hL => lv_pop2_2 C.1.1 C.1.2.1 hd rfl (hW ls H locs hl hR hL)
theorem lx_lshl (C : lx_C G p s m meth c b L xs) {z : Int64} (hd : decode code pc = .ok (.lshl, 1)) (hW : lx_W G p l e s m below meth c b (pc + 1, lv, .long (z <<< (y.toInt64 &&& 63)) :: st, h, n, cs, ss)) : lx_W G p l e s m below meth c b (pc, lv, .int y :: .long z :: st, h, n, cs, ss) := fun ls H locs hl hR hL => lv_lshl C.1.1 C.1.2.1 hd rfl (hW ls H locs hl hR hL)
theorem lx_lor (C : lx_C G p s m meth c b L xs) {z w : Int64} (hd : decode code pc = .ok (.lor, 1)) (hW : lx_W G p l e s m below meth c b (pc + 1, lv, .long (z ||| w) :: st, h, n, cs, ss)) : lx_W G p l e s m below meth c b (pc, lv, .long w :: .long z :: st, h, n, cs, ss) := fun ls H locs hl hR hL => lv_lor C.1.1 C.1.2.1 hd (hW ls H locs hl hR hL)
/-- a call, over a table of methods that the law's table keeps -/
theorem lx_call (C : lx_C G p s m meth c b L xs) {prog : List ax_MI} (hprog : ax_Prog prog) (hok : ax_Ok prog "LetterSumsLaw" meth.name code pc en.2.1 en.2.2.1 en.2.2.2.1) {q : ax_MI × List Value × List Value} (hq : ax_inv prog en.2.1 en.2.2.2.1 st h = some q) {o1 : ax_O} (hM : ab_M l G 40 q.1 q.2.1 h n o1) (h1 : cs + q.1.2.2.2.2.2.2.1 ≤ 600000) (h2 : ss + q.1.2.2.2.2.2.2.2.1 ≤ 7302250)
    (hW : lx_W G p l e s m below meth c b (pc + 3, lv, o1.1.toList ++ q.2.2, o1.2.1, o1.2.2, cs + q.1.2.2.2.2.2.2.1, ss + q.1.2.2.2.2.2.2.2.1)) : lx_W G p l e s m below meth c b (pc, lv, st, h, n, cs, ss) :=
  ax_inv_ok hprog C.1 hok hq (fun _ => hM.1) (by decide) (by decide) h1 h2 hW hM.2
theorem lx_end (C : lx_C G p s m meth c b L xs) (h1 : cs ≤ 600000) (h2 : ss ≤ 7302250) (d2 : decode code pc = .ok (.ireturn, 1)) : lx_W G p l e s m below meth c b (pc, lv, [.int 1], h, n, cs, ss) := by
  obtain ⟨M, hr, hB, hH, hso, hbl, hX⟩ := C
  intro ls H locs hl hR hL
  refine va_forget (fun q hq => by rw [← hB]; exact hL q hq) ?_
  refine W.widen h1 h2 ?_
  exact lw_ret M.1 M.2.1 hr M.2.2.2.2.2.1 d2
end LX
end
