/-! in(v, low, high) -/
theorem in_ok {l : Launch} {G : ax_T} {d : Nat} (v a b : Int32) (h : ax_H) (n : Nat) : ab_M l G (d + 1) mt_X11_in [.int v, .int a, .int b] h n (some (.int (if a.toInt ≤ v.toInt ∧ v.toInt ≤ b.toInt then 1 else 0)), h, n) := by
  have hmi : mt_X11_in ∈ mt_prog := List.mem_of_getElem? mi_X11_in
  refine ab_Wd_call mt_ok hmi (Nat.le_of_ble_eq_true rfl) ?_ ?_
  · show (_ == (0 : Int32) || _ == (1 : Int32)) = true
    split <;> rfl
  show ab_Wd l G mt_X11_in d _ (0, [(0, .int v), (1, .int a), (2, .int b)], [], h, n, 0, 0)
  refine ab_Wd_step mt_ok hmi (en := (0, .iload_n 0, 1, (0, 0, 0, 0), [])) rfl (F := (1, [(0, .int v), (1, .int a), (2, .int b)], [.int v], h, n, 0, 0)) rfl (Nat.zero_le _) (Nat.zero_le _) ?_
  refine ab_Wd_step mt_ok hmi (en := (1, .iload_n 1, 1, (0, 0, 0, 0), [])) rfl (F := (2, [(0, .int v), (1, .int a), (2, .int b)], [.int a, .int v], h, n, 0, 0)) rfl (Nat.zero_le _) (Nat.zero_le _) ?_
  by_cases h1 : ax_holds .lt v a
  · have k1 := cx_lt.mp h1
    rw [if_neg (show ¬ (a.toInt ≤ v.toInt ∧ v.toInt ≤ b.toInt) by omega)]
    refine cx_it hmi rfl (tg := 14) rfl h1 ?_
    refine ab_Wd_step mt_ok hmi (en := (14, .iconst 0, 1, (0, 0, 0, 0), [])) rfl (F := (15, [(0, .int v), (1, .int a), (2, .int b)], [.int (Int32.ofInt 0)], h, n, 0, 0)) rfl (Nat.zero_le _) (Nat.zero_le _) ?_
    exact ab_Wd_ret mt_ok hmi rfl rfl rfl (Nat.zero_le _) (Nat.zero_le _)
  · have k1 : ¬ v.toInt < a.toInt := fun q => h1 (cx_lt.mpr q)
    refine cx_if hmi rfl (tg := 14) rfl h1 ?_
    refine ab_Wd_step mt_ok hmi (en := (5, .iload_n 0, 1, (0, 0, 0, 0), [])) rfl (F := (6, [(0, .int v), (1, .int a), (2, .int b)], [.int v], h, n, 0, 0)) rfl (Nat.zero_le _) (Nat.zero_le _) ?_
    refine ab_Wd_step mt_ok hmi (en := (6, .iload_n 2, 1, (0, 0, 0, 0), [])) rfl (F := (7, [(0, .int v), (1, .int a), (2, .int b)], [.int b, .int v], h, n, 0, 0)) rfl (Nat.zero_le _) (Nat.zero_le _) ?_
    by_cases h2 : ax_holds .gt v b
    · have k2 : b.toInt < v.toInt := cx_lt.mp h2
      rw [if_neg (show ¬ (a.toInt ≤ v.toInt ∧ v.toInt ≤ b.toInt) by omega)]
      refine cx_it hmi rfl (tg := 14) rfl h2 ?_
      refine ab_Wd_step mt_ok hmi (en := (14, .iconst 0, 1, (0, 0, 0, 0), [])) rfl (F := (15, [(0, .int v), (1, .int a), (2, .int b)], [.int (Int32.ofInt 0)], h, n, 0, 0)) rfl (Nat.zero_le _) (Nat.zero_le _) ?_
      exact ab_Wd_ret mt_ok hmi rfl rfl rfl (Nat.zero_le _) (Nat.zero_le _)
    · have k2 : ¬ b.toInt < v.toInt := fun q => h2 (cx_lt.mpr q)
      rw [if_pos (show a.toInt ≤ v.toInt ∧ v.toInt ≤ b.toInt by omega)]
      refine cx_if hmi rfl (tg := 14) rfl h2 ?_
      refine ab_Wd_step mt_ok hmi (en := (10, .iconst 1, 1, (0, 0, 0, 0), [])) rfl (F := (11, [(0, .int v), (1, .int a), (2, .int b)], [.int (Int32.ofInt 1)], h, n, 0, 0)) rfl (Nat.zero_le _) (Nat.zero_le _) ?_
      refine ab_Wd_step mt_ok hmi (en := (11, .goto 4, 3, (0, 0, 0, 0), [])) rfl (F := (15, [(0, .int v), (1, .int a), (2, .int b)], [.int (Int32.ofInt 1)], h, n, 0, 0)) rfl (Nat.zero_le _) (Nat.zero_le _) ?_
      exact ab_Wd_ret mt_ok hmi rfl rfl rfl (Nat.zero_le _) (Nat.zero_le _)
