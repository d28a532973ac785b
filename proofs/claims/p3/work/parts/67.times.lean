/-! ===== times, in the class (ways printed by wip/safe/path.py) ===== -/
/-- what times answers -/
def tmI (a b : Nat) (w : Int32) : Int32 := if w.toInt = 0 then nI (tp a b (hl 14 a)) else if w.toInt = 1 then nI (hl 14 a) else
  if 10 ≤ w.toInt ∧ w.toInt < 30 then (if (w.toInt - 10).toNat < hl 14 a then nI (a / 2 ^ (w.toInt - 10).toNat) else Int32.ofInt (-1)) else
  if 30 ≤ w.toInt ∧ w.toInt < 50 then (if (w.toInt - 30).toNat < hl 14 a then nI (b * 2 ^ (w.toInt - 30).toNat) else Int32.ofInt (-1)) else Int32.ofInt (-102)
def tmS (a b w : Int32) : Int32 := if (1 ≤ a.toInt ∧ a.toInt ≤ 9999) ∧ 1 ≤ b.toInt ∧ b.toInt ≤ 9999 then tmI a.toInt.toNat b.toInt.toNat w else Int32.ofInt (-102)
theorem cx_sub {m k : Nat} (hk : k ≤ m) : nI m - nI k = nI (m - k) := by
  have h1 : nI (m - k) + nI k = nI m := by rw [nI_add, Nat.sub_add_cancel hk]
  rw [← h1, Int32.add_sub_cancel]
theorem hl14 (a : Nat) : hl 14 a ≤ 14 := Nat.not_lt.mp fun q => by
  have := (hl_lt 14 a 14).mp q
  omega
theorem cx_m102 : (Int8.ofInt (-102)).toInt32 = Int32.ofInt (-102) := ab_i8 (by decide) (by decide)
theorem cx_8i (k : Nat) (hk : k ≤ 127) : ((Int8.ofInt (k : Int)).toInt32).toInt = k := by rw [cx_8 hk, nI_toInt (by omega)]
theorem cx_16i (k : Nat) (hk : k ≤ 32767) : ((Int16.ofInt (k : Int)).toInt32).toInt = k := by rw [cx_16 hk, nI_toInt (by omega)]
theorem tm_in {l : Launch} {G : ax_T} {d : Nat} {a b : Nat} (ha : a < 2 ^ 14) (hb : b < 2 ^ 14) (w : Int32) {k : Nat} {h : ax_H} {n : Nat} : ab_Wd l G mt_X10_times (d + 2) (some (.int (tmI a b w)), h, n) (27, [(0, .ref k), (1, .int (nI a)), (2, .int (nI b)), (3, .int w)], [], h, n, 0, 0) := by
  have hmi : mt_X10_times ∈ mt_prog := List.mem_of_getElem? mi_X10_times
  have z0 : (0 : Int32).toInt = 0 := rfl
  have z1 : (Int32.ofInt 1).toInt = 1 := rfl
  have z10 : ((Int8.ofInt 10).toInt32).toInt = 10 := cx_8i 10 (by decide)
  have z30 : ((Int8.ofInt 30).toInt32).toInt = 30 := cx_8i 30 (by decide)
  have z50 : ((Int8.ofInt 50).toInt32).toInt = 50 := cx_8i 50 (by decide)
  have hL := hl14 a
  refine ab_Wd_step mt_ok hmi (en := (27, .iload_n 3, 1, (0, 0, 0, 0), [])) rfl (F := (28, [(0, .ref k), (1, .int (nI a)), (2, .int (nI b)), (3, .int w)], [.int w], h, n, 0, 0)) rfl (Nat.zero_le _) (Nat.zero_le _) ?_
  by_cases e0 : w.toInt = 0
  · have h0 : ¬ ax_holds .ne w 0 := fun q => q (Int32.toInt_inj.mp (by rw [e0]; rfl))
    rw [show tmI a b w = nI (tp a b (hl 14 a)) from if_pos e0]
    refine cx_zf hmi rfl (tg := 37) rfl h0 ?_
    refine ab_Wd_step mt_ok hmi (en := (31, .iload_n 1, 1, (0, 0, 0, 0), [])) rfl (F := (32, [(0, .ref k), (1, .int (nI a)), (2, .int (nI b)), (3, .int w)], [.int (nI a)], h, n, 0, 0)) rfl (Nat.zero_le _) (Nat.zero_le _) ?_
    refine ab_Wd_step mt_ok hmi (en := (32, .iload_n 2, 1, (0, 0, 0, 0), [])) rfl (F := (33, [(0, .ref k), (1, .int (nI a)), (2, .int (nI b)), (3, .int w)], [.int (nI b), .int (nI a)], h, n, 0, 0)) rfl (Nat.zero_le _) (Nat.zero_le _) ?_
    refine cx_call hmi rfl rfl ⟨rfl, rfl⟩ (pr_ok ha hb h n) ?_
    exact ab_Wd_ret mt_ok hmi rfl rfl rfl (Nat.zero_le _) (Nat.zero_le _)
  · have h0 : ax_holds .ne w 0 := fun q => e0 (by rw [q]; rfl)
    refine cx_zt hmi rfl (tg := 37) rfl h0 ?_
    refine ab_Wd_step mt_ok hmi (en := (37, .iload_n 3, 1, (0, 0, 0, 0), [])) rfl (F := (38, [(0, .ref k), (1, .int (nI a)), (2, .int (nI b)), (3, .int w)], [.int w], h, n, 0, 0)) rfl (Nat.zero_le _) (Nat.zero_le _) ?_
    refine ab_Wd_step mt_ok hmi (en := (38, .iconst 1, 1, (0, 0, 0, 0), [])) rfl (F := (39, [(0, .ref k), (1, .int (nI a)), (2, .int (nI b)), (3, .int w)], [.int (Int32.ofInt 1), .int w], h, n, 0, 0)) rfl (Nat.zero_le _) (Nat.zero_le _) ?_
    by_cases e1 : w.toInt = 1
    · have h1 : ¬ ax_holds .ne w (Int32.ofInt 1) := fun q => q (Int32.toInt_inj.mp (by rw [e1]; rfl))
      rw [show tmI a b w = nI (hl 14 a) from by unfold tmI; rw [if_neg e0, if_pos e1]]
      refine cx_if hmi rfl (tg := 47) rfl h1 ?_
      refine ab_Wd_step mt_ok hmi (en := (42, .iload_n 1, 1, (0, 0, 0, 0), [])) rfl (F := (43, [(0, .ref k), (1, .int (nI a)), (2, .int (nI b)), (3, .int w)], [.int (nI a)], h, n, 0, 0)) rfl (Nat.zero_le _) (Nat.zero_le _) ?_
      refine cx_call hmi rfl rfl ⟨rfl, rfl⟩ (hv_ok (d := d + 1) ha h n) ?_
      exact ab_Wd_ret mt_ok hmi rfl rfl rfl (Nat.zero_le _) (Nat.zero_le _)
    · have h1 : ax_holds .ne w (Int32.ofInt 1) := fun q => e1 (by rw [q]; rfl)
      refine cx_it hmi rfl (tg := 47) rfl h1 ?_
      refine ab_Wd_step mt_ok hmi (en := (47, .iload_n 3, 1, (0, 0, 0, 0), [])) rfl (F := (48, [(0, .ref k), (1, .int (nI a)), (2, .int (nI b)), (3, .int w)], [.int w], h, n, 0, 0)) rfl (Nat.zero_le _) (Nat.zero_le _) ?_
      refine ab_Wd_step mt_ok hmi (en := (48, .bipush 10, 2, (0, 0, 0, 0), [])) rfl (F := (50, [(0, .ref k), (1, .int (nI a)), (2, .int (nI b)), (3, .int w)], [.int (Int8.ofInt 10).toInt32, .int w], h, n, 0, 0)) rfl (Nat.zero_le _) (Nat.zero_le _) ?_
      by_cases e10 : w.toInt < 10
      · have h10 : ax_holds .lt w (Int8.ofInt 10).toInt32 := cx_lt.mpr (by rw [z10]; exact e10)
        have h30 : ax_holds .lt w (Int8.ofInt 30).toInt32 := cx_lt.mpr (by rw [z30]; show w.toInt < 30; omega)
        rw [show tmI a b w = (Int8.ofInt (-102)).toInt32 from by unfold tmI; rw [if_neg e0, if_neg e1, if_neg (by omega), if_neg (by omega), cx_m102]]
        refine cx_it hmi rfl (tg := 83) rfl h10 ?_
        refine ab_Wd_step mt_ok hmi (en := (83, .iload_n 3, 1, (0, 0, 0, 0), [])) rfl (F := (84, [(0, .ref k), (1, .int (nI a)), (2, .int (nI b)), (3, .int w)], [.int w], h, n, 0, 0)) rfl (Nat.zero_le _) (Nat.zero_le _) ?_
        refine ab_Wd_step mt_ok hmi (en := (84, .bipush 30, 2, (0, 0, 0, 0), [])) rfl (F := (86, [(0, .ref k), (1, .int (nI a)), (2, .int (nI b)), (3, .int w)], [.int (Int8.ofInt 30).toInt32, .int w], h, n, 0, 0)) rfl (Nat.zero_le _) (Nat.zero_le _) ?_
        refine cx_it hmi rfl (tg := 119) rfl h30 ?_
        refine ab_Wd_step mt_ok hmi (en := (119, .bipush (-102), 2, (0, 0, 0, 0), [])) rfl (F := (121, [(0, .ref k), (1, .int (nI a)), (2, .int (nI b)), (3, .int w)], [.int (Int8.ofInt (-102)).toInt32], h, n, 0, 0)) rfl (Nat.zero_le _) (Nat.zero_le _) ?_
        exact ab_Wd_ret mt_ok hmi rfl rfl rfl (Nat.zero_le _) (Nat.zero_le _)
      · have h10 : ¬ ax_holds .lt w (Int8.ofInt 10).toInt32 := fun q => e10 (by have := cx_lt.mp q; rw [z10] at this; exact this)
        refine cx_if hmi rfl (tg := 83) rfl h10 ?_
        refine ab_Wd_step mt_ok hmi (en := (53, .iload_n 3, 1, (0, 0, 0, 0), [])) rfl (F := (54, [(0, .ref k), (1, .int (nI a)), (2, .int (nI b)), (3, .int w)], [.int w], h, n, 0, 0)) rfl (Nat.zero_le _) (Nat.zero_le _) ?_
        refine ab_Wd_step mt_ok hmi (en := (54, .bipush 30, 2, (0, 0, 0, 0), [])) rfl (F := (56, [(0, .ref k), (1, .int (nI a)), (2, .int (nI b)), (3, .int w)], [.int (Int8.ofInt 30).toInt32, .int w], h, n, 0, 0)) rfl (Nat.zero_le _) (Nat.zero_le _) ?_
        by_cases e30 : w.toInt < 30
        · have h30 : ¬ ax_holds .ge w (Int8.ofInt 30).toInt32 := fun q => by
            have := cx_le.mp q
            rw [z30] at this
            have this' : (30 : Int) ≤ w.toInt := this
            omega
          obtain ⟨m, hm, hw, hme⟩ := ab_nn (x := w) (by omega)
          refine cx_if hmi rfl (tg := 83) rfl h30 ?_
          refine ab_Wd_step mt_ok hmi (en := (59, .iload_n 3, 1, (0, 0, 0, 0), [])) rfl (F := (60, [(0, .ref k), (1, .int (nI a)), (2, .int (nI b)), (3, .int w)], [.int w], h, n, 0, 0)) rfl (Nat.zero_le _) (Nat.zero_le _) ?_
          refine ab_Wd_step mt_ok hmi (en := (60, .bipush 10, 2, (0, 0, 0, 0), [])) rfl (F := (62, [(0, .ref k), (1, .int (nI a)), (2, .int (nI b)), (3, .int w)], [.int (Int8.ofInt 10).toInt32, .int w], h, n, 0, 0)) rfl (Nat.zero_le _) (Nat.zero_le _) ?_
          refine ab_Wd_step mt_ok hmi (en := (62, .isub, 1, (0, 0, 0, 0), [])) rfl (F := (63, [(0, .ref k), (1, .int (nI a)), (2, .int (nI b)), (3, .int w)], [.int (w - (Int8.ofInt 10).toInt32)], h, n, 0, 0)) rfl (Nat.zero_le _) (Nat.zero_le _) ?_
          refine ab_Wd_step mt_ok hmi (en := (63, .istore 4, 2, (0, 0, 0, 0), [])) rfl (F := (65, [(4, .int (w - (Int8.ofInt 10).toInt32)), (0, .ref k), (1, .int (nI a)), (2, .int (nI b)), (3, .int w)], [], h, n, 0, 0)) rfl (Nat.zero_le _) (Nat.zero_le _) ?_
          refine ab_Wd_step mt_ok hmi (en := (65, .iload 4, 2, (0, 0, 0, 0), [])) rfl (F := (67, [(4, .int (w - (Int8.ofInt 10).toInt32)), (0, .ref k), (1, .int (nI a)), (2, .int (nI b)), (3, .int w)], [.int (w - (Int8.ofInt 10).toInt32)], h, n, 0, 0)) rfl (Nat.zero_le _) (Nat.zero_le _) ?_
          refine ab_Wd_step mt_ok hmi (en := (67, .iload_n 1, 1, (0, 0, 0, 0), [])) rfl (F := (68, [(4, .int (w - (Int8.ofInt 10).toInt32)), (0, .ref k), (1, .int (nI a)), (2, .int (nI b)), (3, .int w)], [.int (nI a), .int (w - (Int8.ofInt 10).toInt32)], h, n, 0, 0)) rfl (Nat.zero_le _) (Nat.zero_le _) ?_
          refine cx_call hmi rfl rfl ⟨rfl, rfl⟩ (hv_ok (d := d + 1) ha h n) ?_
          have hs : w - (Int8.ofInt 10).toInt32 = nI (m - 10) := by rw [hw, show (Int8.ofInt 10).toInt32 = nI 10 from cx_8 (by decide)]; exact cx_sub (by omega)
          rw [hs]
          have hj : (w.toInt - 10).toNat = m - 10 := by omega
          by_cases ec : m - 10 < hl 14 a
          · have hc : ¬ ax_holds .ge (nI (m - 10)) (nI (hl 14 a)) := nI_ge ec (by omega)
            rw [show tmI a b w = nI (a / 2 ^ (m - 10)) from by unfold tmI; rw [if_neg e0, if_neg e1, if_pos (by omega), hj, if_pos ec]]
            refine cx_if hmi rfl (tg := 81) rfl hc ?_
            refine ab_Wd_step mt_ok hmi (en := (74, .iload_n 1, 1, (0, 0, 0, 0), [])) rfl (F := (75, [(4, .int (nI (m - 10))), (0, .ref k), (1, .int (nI a)), (2, .int (nI b)), (3, .int w)], [.int (nI a)], h, n, 0, 0)) rfl (Nat.zero_le _) (Nat.zero_le _) ?_
            refine ab_Wd_step mt_ok hmi (en := (75, .iload 4, 2, (0, 0, 0, 0), [])) rfl (F := (77, [(4, .int (nI (m - 10))), (0, .ref k), (1, .int (nI a)), (2, .int (nI b)), (3, .int w)], [.int (nI (m - 10)), .int (nI a)], h, n, 0, 0)) rfl (Nat.zero_le _) (Nat.zero_le _) ?_
            refine ab_Wd_step mt_ok hmi (en := (77, .ishr, 1, (0, 0, 0, 0), [])) rfl (F := (78, [(4, .int (nI (m - 10))), (0, .ref k), (1, .int (nI a)), (2, .int (nI b)), (3, .int w)], [.int ((nI a) >>> ((nI (m - 10)) &&& 31))], h, n, 0, 0)) rfl (Nat.zero_le _) (Nat.zero_le _) ?_
            refine ab_Wd_step mt_ok hmi (en := (78, .goto 4, 3, (0, 0, 0, 0), [])) rfl (F := (82, [(4, .int (nI (m - 10))), (0, .ref k), (1, .int (nI a)), (2, .int (nI b)), (3, .int w)], [.int ((nI a) >>> ((nI (m - 10)) &&& 31))], h, n, 0, 0)) rfl (Nat.zero_le _) (Nat.zero_le _) ?_
            rw [cx_shr (a := a) (k := m - 10) (by omega) (by omega)]
            exact ab_Wd_ret mt_ok hmi rfl rfl rfl (Nat.zero_le _) (Nat.zero_le _)
          · have hc : ax_holds .ge (nI (m - 10)) (nI (hl 14 a)) := nI_le (by omega) (by omega)
            rw [show tmI a b w = Int32.ofInt (-1) from by unfold tmI; rw [if_neg e0, if_neg e1, if_pos (by omega), hj, if_neg ec]]
            refine cx_it hmi rfl (tg := 81) rfl hc ?_
            refine ab_Wd_step mt_ok hmi (en := (81, .iconst (-1), 1, (0, 0, 0, 0), [])) rfl (F := (82, [(4, .int (nI (m - 10))), (0, .ref k), (1, .int (nI a)), (2, .int (nI b)), (3, .int w)], [.int (Int32.ofInt (-1))], h, n, 0, 0)) rfl (Nat.zero_le _) (Nat.zero_le _) ?_
            exact ab_Wd_ret mt_ok hmi rfl rfl rfl (Nat.zero_le _) (Nat.zero_le _)
        · have h30 : ax_holds .ge w (Int8.ofInt 30).toInt32 := cx_le.mpr (by rw [z30]; show (30 : Int) ≤ _; omega)
          have h30' : ¬ ax_holds .lt w (Int8.ofInt 30).toInt32 := fun q => e30 (by have := cx_lt.mp q; rw [z30] at this; exact this)
          refine cx_it hmi rfl (tg := 83) rfl h30 ?_
          refine ab_Wd_step mt_ok hmi (en := (83, .iload_n 3, 1, (0, 0, 0, 0), [])) rfl (F := (84, [(0, .ref k), (1, .int (nI a)), (2, .int (nI b)), (3, .int w)], [.int w], h, n, 0, 0)) rfl (Nat.zero_le _) (Nat.zero_le _) ?_
          refine ab_Wd_step mt_ok hmi (en := (84, .bipush 30, 2, (0, 0, 0, 0), [])) rfl (F := (86, [(0, .ref k), (1, .int (nI a)), (2, .int (nI b)), (3, .int w)], [.int (Int8.ofInt 30).toInt32, .int w], h, n, 0, 0)) rfl (Nat.zero_le _) (Nat.zero_le _) ?_
          refine cx_if hmi rfl (tg := 119) rfl h30' ?_
          refine ab_Wd_step mt_ok hmi (en := (89, .iload_n 3, 1, (0, 0, 0, 0), [])) rfl (F := (90, [(0, .ref k), (1, .int (nI a)), (2, .int (nI b)), (3, .int w)], [.int w], h, n, 0, 0)) rfl (Nat.zero_le _) (Nat.zero_le _) ?_
          refine ab_Wd_step mt_ok hmi (en := (90, .bipush 50, 2, (0, 0, 0, 0), [])) rfl (F := (92, [(0, .ref k), (1, .int (nI a)), (2, .int (nI b)), (3, .int w)], [.int (Int8.ofInt 50).toInt32, .int w], h, n, 0, 0)) rfl (Nat.zero_le _) (Nat.zero_le _) ?_
          by_cases e50 : w.toInt < 50
          · have h50 : ¬ ax_holds .ge w (Int8.ofInt 50).toInt32 := fun q => by
              have := cx_le.mp q
              rw [z50] at this
              have this' : (50 : Int) ≤ w.toInt := this
              omega
            obtain ⟨m, hm, hw, hme⟩ := ab_nn (x := w) (by omega)
            refine cx_if hmi rfl (tg := 119) rfl h50 ?_
            refine ab_Wd_step mt_ok hmi (en := (95, .iload_n 3, 1, (0, 0, 0, 0), [])) rfl (F := (96, [(0, .ref k), (1, .int (nI a)), (2, .int (nI b)), (3, .int w)], [.int w], h, n, 0, 0)) rfl (Nat.zero_le _) (Nat.zero_le _) ?_
            refine ab_Wd_step mt_ok hmi (en := (96, .bipush 30, 2, (0, 0, 0, 0), [])) rfl (F := (98, [(0, .ref k), (1, .int (nI a)), (2, .int (nI b)), (3, .int w)], [.int (Int8.ofInt 30).toInt32, .int w], h, n, 0, 0)) rfl (Nat.zero_le _) (Nat.zero_le _) ?_
            refine ab_Wd_step mt_ok hmi (en := (98, .isub, 1, (0, 0, 0, 0), [])) rfl (F := (99, [(0, .ref k), (1, .int (nI a)), (2, .int (nI b)), (3, .int w)], [.int (w - (Int8.ofInt 30).toInt32)], h, n, 0, 0)) rfl (Nat.zero_le _) (Nat.zero_le _) ?_
            refine ab_Wd_step mt_ok hmi (en := (99, .istore 4, 2, (0, 0, 0, 0), [])) rfl (F := (101, [(4, .int (w - (Int8.ofInt 30).toInt32)), (0, .ref k), (1, .int (nI a)), (2, .int (nI b)), (3, .int w)], [], h, n, 0, 0)) rfl (Nat.zero_le _) (Nat.zero_le _) ?_
            refine ab_Wd_step mt_ok hmi (en := (101, .iload 4, 2, (0, 0, 0, 0), [])) rfl (F := (103, [(4, .int (w - (Int8.ofInt 30).toInt32)), (0, .ref k), (1, .int (nI a)), (2, .int (nI b)), (3, .int w)], [.int (w - (Int8.ofInt 30).toInt32)], h, n, 0, 0)) rfl (Nat.zero_le _) (Nat.zero_le _) ?_
            refine ab_Wd_step mt_ok hmi (en := (103, .iload_n 1, 1, (0, 0, 0, 0), [])) rfl (F := (104, [(4, .int (w - (Int8.ofInt 30).toInt32)), (0, .ref k), (1, .int (nI a)), (2, .int (nI b)), (3, .int w)], [.int (nI a), .int (w - (Int8.ofInt 30).toInt32)], h, n, 0, 0)) rfl (Nat.zero_le _) (Nat.zero_le _) ?_
            refine cx_call hmi rfl rfl ⟨rfl, rfl⟩ (hv_ok (d := d + 1) ha h n) ?_
            have hs : w - (Int8.ofInt 30).toInt32 = nI (m - 30) := by rw [hw, show (Int8.ofInt 30).toInt32 = nI 30 from cx_8 (by decide)]; exact cx_sub (by omega)
            rw [hs]
            have hj : (w.toInt - 30).toNat = m - 30 := by omega
            by_cases ec : m - 30 < hl 14 a
            · have hc : ¬ ax_holds .ge (nI (m - 30)) (nI (hl 14 a)) := nI_ge ec (by omega)
              rw [show tmI a b w = nI (b * 2 ^ (m - 30)) from by unfold tmI; rw [if_neg e0, if_neg e1, if_neg (by omega), if_pos (by omega), hj, if_pos ec]]
              refine cx_if hmi rfl (tg := 117) rfl hc ?_
              refine ab_Wd_step mt_ok hmi (en := (110, .iload_n 2, 1, (0, 0, 0, 0), [])) rfl (F := (111, [(4, .int (nI (m - 30))), (0, .ref k), (1, .int (nI a)), (2, .int (nI b)), (3, .int w)], [.int (nI b)], h, n, 0, 0)) rfl (Nat.zero_le _) (Nat.zero_le _) ?_
              refine ab_Wd_step mt_ok hmi (en := (111, .iload 4, 2, (0, 0, 0, 0), [])) rfl (F := (113, [(4, .int (nI (m - 30))), (0, .ref k), (1, .int (nI a)), (2, .int (nI b)), (3, .int w)], [.int (nI (m - 30)), .int (nI b)], h, n, 0, 0)) rfl (Nat.zero_le _) (Nat.zero_le _) ?_
              refine ab_Wd_step mt_ok hmi (en := (113, .ishl, 1, (0, 0, 0, 0), [])) rfl (F := (114, [(4, .int (nI (m - 30))), (0, .ref k), (1, .int (nI a)), (2, .int (nI b)), (3, .int w)], [.int ((nI b) <<< ((nI (m - 30)) &&& 31))], h, n, 0, 0)) rfl (Nat.zero_le _) (Nat.zero_le _) ?_
              refine ab_Wd_step mt_ok hmi (en := (114, .goto 4, 3, (0, 0, 0, 0), [])) rfl (F := (118, [(4, .int (nI (m - 30))), (0, .ref k), (1, .int (nI a)), (2, .int (nI b)), (3, .int w)], [.int ((nI b) <<< ((nI (m - 30)) &&& 31))], h, n, 0, 0)) rfl (Nat.zero_le _) (Nat.zero_le _) ?_
              have h2i : 2 ^ (m - 30) ≤ 2 ^ 13 := Nat.pow_le_pow_right (by decide) (by omega)
              have hbi : b * 2 ^ (m - 30) ≤ (2 ^ 14 - 1) * 2 ^ 13 := Nat.mul_le_mul (by omega) h2i
              rw [cx_shl (a := b) (k := m - 30) (by omega) (by omega)]
              exact ab_Wd_ret mt_ok hmi rfl rfl rfl (Nat.zero_le _) (Nat.zero_le _)
            · have hc : ax_holds .ge (nI (m - 30)) (nI (hl 14 a)) := nI_le (by omega) (by omega)
              rw [show tmI a b w = Int32.ofInt (-1) from by unfold tmI; rw [if_neg e0, if_neg e1, if_neg (by omega), if_pos (by omega), hj, if_neg ec]]
              refine cx_it hmi rfl (tg := 117) rfl hc ?_
              refine ab_Wd_step mt_ok hmi (en := (117, .iconst (-1), 1, (0, 0, 0, 0), [])) rfl (F := (118, [(4, .int (nI (m - 30))), (0, .ref k), (1, .int (nI a)), (2, .int (nI b)), (3, .int w)], [.int (Int32.ofInt (-1))], h, n, 0, 0)) rfl (Nat.zero_le _) (Nat.zero_le _) ?_
              exact ab_Wd_ret mt_ok hmi rfl rfl rfl (Nat.zero_le _) (Nat.zero_le _)
          · have h50 : ax_holds .ge w (Int8.ofInt 50).toInt32 := cx_le.mpr (by rw [z50]; show (50 : Int) ≤ _; omega)
            rw [show tmI a b w = (Int8.ofInt (-102)).toInt32 from by unfold tmI; rw [if_neg e0, if_neg e1, if_neg (by omega), if_neg (by omega), cx_m102]]
            refine cx_it hmi rfl (tg := 119) rfl h50 ?_
            refine ab_Wd_step mt_ok hmi (en := (119, .bipush (-102), 2, (0, 0, 0, 0), [])) rfl (F := (121, [(0, .ref k), (1, .int (nI a)), (2, .int (nI b)), (3, .int w)], [.int (Int8.ofInt (-102)).toInt32], h, n, 0, 0)) rfl (Nat.zero_le _) (Nat.zero_le _) ?_
            exact ab_Wd_ret mt_ok hmi rfl rfl rfl (Nat.zero_le _) (Nat.zero_le _)
theorem tm_ok {l : Launch} {G : ax_T} {d : Nat} (a b w : Int32) (k : Nat) (h : ax_H) (n : Nat) : ab_M l G (d + 3) mt_X10_times [.ref k, .int a, .int b, .int w] h n (some (.int (tmS a b w)), h, n) := by
  have hmi : mt_X10_times ∈ mt_prog := List.mem_of_getElem? mi_X10_times
  have z1 : (Int32.ofInt 1).toInt = 1 := rfl
  have z9 : ((Int16.ofInt 9999).toInt32).toInt = 9999 := cx_16i 9999 (by decide)
  refine ab_Wd_call mt_ok hmi (Nat.le_of_ble_eq_true rfl) rfl ?_
  show ab_Wd l G mt_X10_times (d + 2) _ (0, [(0, .ref k), (1, .int a), (2, .int b), (3, .int w)], [], h, n, 0, 0)
  refine ab_Wd_step mt_ok hmi (en := (0, .iload_n 1, 1, (0, 0, 0, 0), [])) rfl (F := (1, [(0, .ref k), (1, .int a), (2, .int b), (3, .int w)], [.int a], h, n, 0, 0)) rfl (Nat.zero_le _) (Nat.zero_le _) ?_
  refine ab_Wd_step mt_ok hmi (en := (1, .iconst 1, 1, (0, 0, 0, 0), [])) rfl (F := (2, [(0, .ref k), (1, .int a), (2, .int b), (3, .int w)], [.int (Int32.ofInt 1), .int a], h, n, 0, 0)) rfl (Nat.zero_le _) (Nat.zero_le _) ?_
  by_cases h1 : ax_holds .lt a (Int32.ofInt 1)
  · have k1 := cx_lt.mp h1
    rw [z1] at k1
    rw [show tmS a b w = (Int8.ofInt (-102)).toInt32 from by unfold tmS; rw [if_neg (by omega), cx_m102]]
    refine cx_it hmi rfl (tg := 24) rfl h1 ?_
    refine ab_Wd_step mt_ok hmi (en := (24, .bipush (-102), 2, (0, 0, 0, 0), [])) rfl (F := (26, [(0, .ref k), (1, .int a), (2, .int b), (3, .int w)], [.int (Int8.ofInt (-102)).toInt32], h, n, 0, 0)) rfl (Nat.zero_le _) (Nat.zero_le _) ?_
    exact ab_Wd_ret mt_ok hmi rfl rfl rfl (Nat.zero_le _) (Nat.zero_le _)
  have k1 : ¬ a.toInt < 1 := fun q => h1 (cx_lt.mpr (by rw [z1]; exact q))
  refine cx_if hmi rfl (tg := 24) rfl h1 ?_
  refine ab_Wd_step mt_ok hmi (en := (5, .iload_n 1, 1, (0, 0, 0, 0), [])) rfl (F := (6, [(0, .ref k), (1, .int a), (2, .int b), (3, .int w)], [.int a], h, n, 0, 0)) rfl (Nat.zero_le _) (Nat.zero_le _) ?_
  refine ab_Wd_step mt_ok hmi (en := (6, .sipush 9999, 3, (0, 0, 0, 0), [])) rfl (F := (9, [(0, .ref k), (1, .int a), (2, .int b), (3, .int w)], [.int (Int16.ofInt 9999).toInt32, .int a], h, n, 0, 0)) rfl (Nat.zero_le _) (Nat.zero_le _) ?_
  by_cases h2 : ax_holds .gt a (Int16.ofInt 9999).toInt32
  · have k2 : _ < a.toInt := cx_lt.mp h2
    rw [z9] at k2
    rw [show tmS a b w = (Int8.ofInt (-102)).toInt32 from by unfold tmS; rw [if_neg (by omega), cx_m102]]
    refine cx_it hmi rfl (tg := 24) rfl h2 ?_
    refine ab_Wd_step mt_ok hmi (en := (24, .bipush (-102), 2, (0, 0, 0, 0), [])) rfl (F := (26, [(0, .ref k), (1, .int a), (2, .int b), (3, .int w)], [.int (Int8.ofInt (-102)).toInt32], h, n, 0, 0)) rfl (Nat.zero_le _) (Nat.zero_le _) ?_
    exact ab_Wd_ret mt_ok hmi rfl rfl rfl (Nat.zero_le _) (Nat.zero_le _)
  have k2 : ¬ 9999 < a.toInt := fun q => h2 (cx_lt.mpr (by rw [z9]; exact q))
  refine cx_if hmi rfl (tg := 24) rfl h2 ?_
  refine ab_Wd_step mt_ok hmi (en := (12, .iload_n 2, 1, (0, 0, 0, 0), [])) rfl (F := (13, [(0, .ref k), (1, .int a), (2, .int b), (3, .int w)], [.int b], h, n, 0, 0)) rfl (Nat.zero_le _) (Nat.zero_le _) ?_
  refine ab_Wd_step mt_ok hmi (en := (13, .iconst 1, 1, (0, 0, 0, 0), [])) rfl (F := (14, [(0, .ref k), (1, .int a), (2, .int b), (3, .int w)], [.int (Int32.ofInt 1), .int b], h, n, 0, 0)) rfl (Nat.zero_le _) (Nat.zero_le _) ?_
  by_cases h3 : ax_holds .lt b (Int32.ofInt 1)
  · have k3 := cx_lt.mp h3
    rw [z1] at k3
    rw [show tmS a b w = (Int8.ofInt (-102)).toInt32 from by unfold tmS; rw [if_neg (by omega), cx_m102]]
    refine cx_it hmi rfl (tg := 24) rfl h3 ?_
    refine ab_Wd_step mt_ok hmi (en := (24, .bipush (-102), 2, (0, 0, 0, 0), [])) rfl (F := (26, [(0, .ref k), (1, .int a), (2, .int b), (3, .int w)], [.int (Int8.ofInt (-102)).toInt32], h, n, 0, 0)) rfl (Nat.zero_le _) (Nat.zero_le _) ?_
    exact ab_Wd_ret mt_ok hmi rfl rfl rfl (Nat.zero_le _) (Nat.zero_le _)
  have k3 : ¬ b.toInt < 1 := fun q => h3 (cx_lt.mpr (by rw [z1]; exact q))
  refine cx_if hmi rfl (tg := 24) rfl h3 ?_
  refine ab_Wd_step mt_ok hmi (en := (17, .iload_n 2, 1, (0, 0, 0, 0), [])) rfl (F := (18, [(0, .ref k), (1, .int a), (2, .int b), (3, .int w)], [.int b], h, n, 0, 0)) rfl (Nat.zero_le _) (Nat.zero_le _) ?_
  refine ab_Wd_step mt_ok hmi (en := (18, .sipush 9999, 3, (0, 0, 0, 0), [])) rfl (F := (21, [(0, .ref k), (1, .int a), (2, .int b), (3, .int w)], [.int (Int16.ofInt 9999).toInt32, .int b], h, n, 0, 0)) rfl (Nat.zero_le _) (Nat.zero_le _) ?_
  by_cases h4 : ax_holds .le b (Int16.ofInt 9999).toInt32
  · have k4 := cx_le.mp h4
    rw [z9] at k4
    rw [show tmS a b w = tmI a.toInt.toNat b.toInt.toNat w from if_pos (by omega)]
    obtain ⟨A, hA, rfl, eA⟩ := ab_nn (x := a) (by omega)
    obtain ⟨B, hB, rfl, eB⟩ := ab_nn (x := b) (by omega)
    rw [show (nI A).toInt.toNat = A by omega, show (nI B).toInt.toNat = B by omega]
    refine cx_it hmi rfl (tg := 27) rfl h4 ?_
    exact tm_in (by omega) (by omega) w
  · have k4 : ¬ b.toInt ≤ 9999 := fun q => h4 (cx_le.mpr (by rw [z9]; exact q))
    rw [show tmS a b w = (Int8.ofInt (-102)).toInt32 from by unfold tmS; rw [if_neg (by omega), cx_m102]]
    refine cx_if hmi rfl (tg := 27) rfl h4 ?_
    refine ab_Wd_step mt_ok hmi (en := (24, .bipush (-102), 2, (0, 0, 0, 0), [])) rfl (F := (26, [(0, .ref k), (1, .int a), (2, .int b), (3, .int w)], [.int (Int8.ofInt (-102)).toInt32], h, n, 0, 0)) rfl (Nat.zero_le _) (Nat.zero_le _) ?_
    exact ab_Wd_ret mt_ok hmi rfl rfl rfl (Nat.zero_le _) (Nat.zero_le _)
