/-! ===== asks of class and reference (ways printed by wip/v2/mk84j.py) ===== -/
theorem mc_swd {l : Launch} {G : ax_T} {mi : ax_MI} {d : Nat} {Q : Option Value → ax_H → Nat → Prop} {pc t : Nat} {lv : List (Nat × Value)} {st : List Value} {h : ax_H} {n : Nat} {x : Int32} {dd lo hi : Int} {offs : Array Int} {ln : Nat} {pe : ax_PE} {hs : List Nat} (hmi : mi ∈ mt_prog) (ha : ax_at mi.2.2.2.2.2.2.2.2 pc = some (pc, .tableswitch dd lo hi offs, ln, pe, hs)) (hx : x.toInt < lo ∨ hi < x.toInt) (ht : ax_to pc dd = some t) (hR : mc_R l G mi d Q (t, lv, st, h, n, 0, 0)) : mc_R l G mi d Q (pc, lv, .int x :: st, h, n, 0, 0) := by
  refine mc_stp hmi ha (pc' := t) (lv' := lv) (st' := st) (h' := h) ?_ hR
  have hb : (decide (x.toInt < lo) || decide (hi < x.toInt)) = true := by
    rcases hx with z | z
    · rw [decide_eq_true z, Bool.true_or]
    · rw [decide_eq_true z, Bool.or_true]
  show ax_s_table (ab_io G) pc lv (.int x :: st) h n 0 0 dd lo hi offs = _
  simp only [ax_s_table, hb, cond_true, ht, Option.map_some]
/-- what asks answers of a custom's cells -/
def ak_Y (h : ax_H) (c0 c1 c2 : Nat) (i : Int) (w y : Int32) : Prop := w.toInt = 0 ∧ y.toInt = ab_ri h c0 i ∨ w.toInt = 1 ∧ y.toInt = ab_ri h c1 i ∨ w.toInt = 2 ∧ y.toInt = ab_ri h c2 i ∨ ¬ (0 ≤ w.toInt ∧ w.toInt ≤ 2) ∧ y.toInt = -102
theorem ak_at {l : Launch} {G : ax_T} {mi : ax_MI} {as : List Value} {h : ax_H} {n : Nat} {P : Int32 → Prop} (hM : mc_M l G 40 mi as h n (mc_P h n P)) : ∃ y : Int32, ab_M l G 40 mi as h n (some (.int y), h, n) ∧ P y := by
  obtain ⟨⟨r, h', n'⟩, m, e1, e2, y, e3, p⟩ := hM
  have e1' : h' = h := e1
  have e2' : n' = n := e2
  have e3' : r = some (.int y) := e3
  rw [e1', e2', e3'] at m
  exact ⟨y, m, p⟩
set_option maxRecDepth 100000 in
theorem ak_c10 {l : Launch} {G : ax_T} {d : Nat} {h : ax_H} {n : Nat} (hd : 2 ≤ d) (H : mc_HW h n) (a : Int32) : mc_M l G d mt_X10_isCustom [.ref 0, .int a] h n (mc_P h n fun y => y.toInt = 1 ∧ (0 ≤ a.toInt ∧ a.toInt < ab_ri h 0 8) ∨ y.toInt = 0 ∧ ¬ (0 ≤ a.toInt ∧ a.toInt < ab_ri h 0 8)) := by
  obtain ⟨d, rfl⟩ : ∃ e, d = e + 1 := ⟨d - 1, by omega⟩
  have hmi : mt_X10_isCustom ∈ mt_prog := List.mem_of_getElem? mi_X10_isCustom
  have hcu : 0 ≤ ab_ri h 0 8 ∧ ab_ri h 0 8 ≤ 6 := mc_frng H (k := 0) (j := 8) (ci := 10) rfl rfl
  refine mc_to hmi rfl ?_
  show mc_R _ _ _ _ _ (0, [(0, .ref 0), (1, .int a)], [], h, n, 0, 0)
  refine mc_cx hmi 1 (F' := (1, [(0, .ref 0), (1, .int a)], [.int a], h, n, 0, 0)) (by with_unfolding_all rfl) ?_
  refine mc_cz hmi (c := .lt) (tg := 16) (pc' := 4) rfl rfl rfl rfl (fun (q101 : a.toInt < 0) => ?_) (fun (q101 : 0 ≤ a.toInt) => ?_)
  · refine mc_cx hmi 1 (F' := (17, [(0, .ref 0), (1, .int a)], [.int (Int32.ofInt 0)], h, n, 0, 0)) (by with_unfolding_all rfl) ?_
    exact mc_ret hmi rfl rfl (mc_rb (by decide)) ⟨rfl, rfl, _, rfl, Or.inr ⟨by decide, by omega⟩⟩
  · refine mc_cx hmi 2 (F' := (6, [(0, .ref 0), (1, .int a)], [.ref 0, .int a], h, n, 0, 0)) (by with_unfolding_all rfl) ?_
    refine mc_geti hmi H (k := 0) (j := 8) (pc' := 9) rfl rfl rfl rfl (fun y102 (e103 : y102.toInt = ab_ri h 0 8) r104 r105 => ?_)
    rw [e103] at r104 r105
    refine mc_ci hmi (c := .ge) (tg := 16) (pc' := 12) rfl rfl rfl rfl e103 (fun (q106 : ab_ri h 0 8 ≤ a.toInt) => ?_) (fun (q106 : a.toInt < ab_ri h 0 8) => ?_)
    · refine mc_cx hmi 1 (F' := (17, [(0, .ref 0), (1, .int a)], [.int (Int32.ofInt 0)], h, n, 0, 0)) (by with_unfolding_all rfl) ?_
      exact mc_ret hmi rfl rfl (mc_rb (by decide)) ⟨rfl, rfl, _, rfl, Or.inr ⟨by decide, by omega⟩⟩
    · refine mc_cx hmi 2 (F' := (17, [(0, .ref 0), (1, .int a)], [.int (Int32.ofInt 1)], h, n, 0, 0)) (by with_unfolding_all rfl) ?_
      exact mc_ret hmi rfl rfl (mc_rb (by decide)) ⟨rfl, rfl, _, rfl, Or.inl ⟨by decide, by omega⟩⟩
set_option maxRecDepth 100000 in
theorem ak_c11 {l : Launch} {G : ax_T} {d : Nat} {h : ax_H} {n : Nat} (hd : 2 ≤ d) (H : mc_HW h n) (a : Int32) : mc_M l G d mt_X11_isCustom [.ref 542, .int a] h n (mc_P h n fun y => y.toInt = 1 ∧ (0 ≤ a.toInt ∧ a.toInt < ab_ri h 542 4) ∨ y.toInt = 0 ∧ ¬ (0 ≤ a.toInt ∧ a.toInt < ab_ri h 542 4)) := by
  obtain ⟨d, rfl⟩ : ∃ e, d = e + 1 := ⟨d - 1, by omega⟩
  have hmi : mt_X11_isCustom ∈ mt_prog := List.mem_of_getElem? mi_X11_isCustom
  have hcu : 0 ≤ ab_ri h 542 4 ∧ ab_ri h 542 4 ≤ 6 := mc_frng H (k := 542) (j := 4) (ci := 11) rfl rfl
  refine mc_to hmi rfl ?_
  show mc_R _ _ _ _ _ (0, [(0, .ref 542), (1, .int a)], [], h, n, 0, 0)
  refine mc_cx hmi 3 (F' := (3, [(0, .ref 542), (1, .int a)], [.ref 542, .int (Int32.ofInt 0), .int a], h, n, 0, 0)) (by with_unfolding_all rfl) ?_
  refine mc_geti hmi H (k := 542) (j := 4) (pc' := 6) rfl rfl rfl rfl (fun y107 (e108 : y107.toInt = ab_ri h 542 4) r109 r110 => ?_)
  rw [e108] at r109 r110
  refine mc_cx hmi 2 (F' := (8, [(0, .ref 542), (1, .int a)], [.int (y107 - (Int32.ofInt 1)), .int (Int32.ofInt 0), .int a], h, n, 0, 0)) (by with_unfolding_all rfl) ?_
  have e111 : (y107 - (Int32.ofInt 1)).toInt = ab_ri h 542 4 - 1 := mc_sub e108 (by decide) (by omega) (by omega)
  refine mc_callP hmi (en := (8, .invokestatic 120, 3, (3, 152, 0, 0), [1291, 1290])) rfl (q := (mt_X11_in, [.int a, .int (Int32.ofInt 0), .int (y107 - (Int32.ofInt 1))], [])) (by with_unfolding_all rfl) ⟨rfl, rfl⟩ (pc' := 11) rfl (mc_inP (by omega) a (Int32.ofInt 0) (y107 - (Int32.ofInt 1)) h n) (fun y112 e113 => ?_)
  have hz : (Int32.ofInt 0).toInt = 0 := by decide
  rw [hz, e111] at e113
  exact mc_ret hmi rfl rfl (mc_rb (by omega)) ⟨rfl, rfl, _, rfl, e113.imp (fun q => ⟨q.1, by omega⟩) (fun q => ⟨q.1, by omega⟩)⟩
set_option maxRecDepth 100000 in
theorem ak_X10 {l : Launch} {G : ax_T} {d : Nat} {h : ax_H} {n : Nat} (hd : 3 ≤ d) (H : mc_HW h n) (hC : ∀ k : Nat, k < 6 → pg_ck h k) (a s w : Int32) : mc_M l G d mt_X10_asks [.ref 0, .int a, .int s, .int w] h n (mc_P h n fun y => (¬ ((0 ≤ a.toInt ∧ a.toInt < ab_ri h 0 8) ∧ 0 ≤ s.toInt ∧ s.toInt ≤ 13) ∧ y.toInt = -101) ∨ (((0 ≤ a.toInt ∧ a.toInt < ab_ri h 0 8) ∧ 0 ≤ s.toInt ∧ s.toInt ≤ 13) ∧ ∃ k : Nat, k < 6 ∧ a.toInt = (k : Int) ∧ ak_Y h (123 + 4 * k) (124 + 4 * k) (125 + 4 * k) s.toInt w y)) := by
  obtain ⟨d, rfl⟩ : ∃ e, d = e + 1 := ⟨d - 1, by omega⟩
  have hmi : mt_X10_asks ∈ mt_prog := List.mem_of_getElem? mi_X10_asks
  have hcu : 0 ≤ ab_ri h 0 8 ∧ ab_ri h 0 8 ≤ 6 := mc_frng H (k := 0) (j := 8) (ci := 10) rfl rfl
  refine mc_to hmi rfl ?_
  show mc_R _ _ _ _ _ (0, [(0, .ref 0), (1, .int a), (2, .int s), (3, .int w)], [], h, n, 0, 0)
  refine mc_cx hmi 2 (F' := (2, [(0, .ref 0), (1, .int a), (2, .int s), (3, .int w)], [.int a, .ref 0], h, n, 0, 0)) (by with_unfolding_all rfl) ?_
  refine mc_callP hmi (en := (2, .invokevirtual 104, 3, (3, 143, 10, 0), [655, 10, 653])) rfl (q := (mt_X10_isCustom, [.ref 0, .int a], [])) (mc_inv H (as := [.int a]) (rest := []) rfl (by with_unfolding_all rfl) rfl rfl rfl) ⟨rfl, rfl⟩ (pc' := 5) rfl (ak_c10 (by omega) H a) (fun y114 e115 => ?_)
  refine mc_cz hmi (c := .eq) (tg := 18) (pc' := 8) rfl rfl rfl rfl (fun (q116 : y114.toInt = 0) => ?_) (fun (q116 : y114.toInt ≠ 0) => ?_)
  · refine mc_cx hmi 1 (F' := (20, [(0, .ref 0), (1, .int a), (2, .int s), (3, .int w)], [.int (Int8.ofInt (-101)).toInt32], h, n, 0, 0)) (by with_unfolding_all rfl) ?_
    exact mc_ret hmi rfl rfl rfl ⟨rfl, rfl, _, rfl, Or.inl ⟨fun z => e115.elim (fun q => by omega) (fun q => q.2 z.1), by decide⟩⟩
  · have hcc := e115.elim (fun q => q.2) (fun q => absurd q.1 q116)
    refine mc_cx hmi 1 (F' := (9, [(0, .ref 0), (1, .int a), (2, .int s), (3, .int w)], [.int s], h, n, 0, 0)) (by with_unfolding_all rfl) ?_
    refine mc_cz hmi (c := .lt) (tg := 18) (pc' := 12) rfl rfl rfl rfl (fun (q117 : s.toInt < 0) => ?_) (fun (q117 : 0 ≤ s.toInt) => ?_)
    · refine mc_cx hmi 1 (F' := (20, [(0, .ref 0), (1, .int a), (2, .int s), (3, .int w)], [.int (Int8.ofInt (-101)).toInt32], h, n, 0, 0)) (by with_unfolding_all rfl) ?_
      exact mc_ret hmi rfl rfl rfl ⟨rfl, rfl, _, rfl, Or.inl ⟨fun z => by omega, by decide⟩⟩
    · refine mc_cx hmi 2 (F' := (15, [(0, .ref 0), (1, .int a), (2, .int s), (3, .int w)], [.int (Int8.ofInt 14).toInt32, .int s], h, n, 0, 0)) (by with_unfolding_all rfl) ?_
      refine mc_ci hmi (c := .lt) (tg := 21) (pc' := 18) rfl rfl rfl rfl (by decide) (fun (q118 : s.toInt < 14) => ?_) (fun (q118 : 14 ≤ s.toInt) => ?_)
      · have hok : (0 ≤ a.toInt ∧ a.toInt < ab_ri h 0 8) ∧ 0 ≤ s.toInt ∧ s.toInt ≤ 13 := ⟨hcc, by omega, by omega⟩
        obtain ⟨k, hk6, hke⟩ : ∃ k : Nat, k < 6 ∧ a.toInt = (k : Int) := ⟨a.toInt.toNat, by omega, by omega⟩
        obtain ⟨k1, u1, u2, u3, u4, u5, u6⟩ := hC k hk6
        refine mc_cx hmi 1 (F' := (22, [(0, .ref 0), (1, .int a), (2, .int s), (3, .int w)], [.int w], h, n, 0, 0)) (by with_unfolding_all rfl) ?_
        have hw : w.toInt = 0 ∨ w.toInt = 1 ∨ w.toInt = 2 ∨ (w.toInt < 0 ∨ 2 < w.toInt) := by omega
        rcases hw with e0 | e0 | e0 | e0
        · obtain rfl : w = Int32.ofInt 0 := Int32.toInt_inj.mp (by rw [e0]; rfl)
          show mc_R _ _ _ _ _ (22, [(0, .ref 0), (1, .int a), (2, .int s), (3, .int (Int32.ofInt 0))], [.int (Int32.ofInt 0)], h, n, 0, 0)
          refine mc_cx hmi 1 (F' := (48, [(0, .ref 0), (1, .int a), (2, .int s), (3, .int (Int32.ofInt 0))], [], h, n, 0, 0)) (by with_unfolding_all rfl) ?_
          refine mc_cx hmi 1 (F' := (49, [(0, .ref 0), (1, .int a), (2, .int s), (3, .int (Int32.ofInt 0))], [.ref 0], h, n, 0, 0)) (by with_unfolding_all rfl) ?_
          refine mc_getr hmi H (k := 0) (c := 3) (pc' := 52) rfl rfl rfl rfl rfl ?_
          refine mc_cx hmi 1 (F' := (53, [(0, .ref 0), (1, .int a), (2, .int s), (3, .int (Int32.ofInt 0))], [.int a, .ref 3], h, n, 0, 0)) (by with_unfolding_all rfl) ?_
          refine mc_aaldC hmi H (k := 3) (c := 122 + 4 * k) (t := 3) (N := 6) (i := (k : Int)) (pc' := 54) rfl rfl rfl rfl hke (by omega) (by omega) k1 rfl ?_
          refine mc_getrC hmi H (k := 122 + 4 * k) (j := 0) (pc' := 57) rfl u1.1 u2.1 u6.1 rfl ?_
          refine mc_cx hmi 1 (F' := (58, [(0, .ref 0), (1, .int a), (2, .int s), (3, .int (Int32.ofInt 0))], [.int s, .ref (123 + 4 * k)], h, n, 0, 0)) (by with_unfolding_all rfl) ?_
          refine mc_iald hmi H (k := 123 + 4 * k) (i := s.toInt) (pc' := 59) rfl u1.2.1 u3.1 rfl (by omega) (by omega) rfl (fun y ey r1 r2 => ?_)
          exact mc_ret hmi rfl rfl rfl ⟨rfl, rfl, _, rfl, Or.inr ⟨hok, k, hk6, hke, Or.inl ⟨by decide, ey⟩⟩⟩
        · obtain rfl : w = Int32.ofInt 1 := Int32.toInt_inj.mp (by rw [e0]; rfl)
          show mc_R _ _ _ _ _ (22, [(0, .ref 0), (1, .int a), (2, .int s), (3, .int (Int32.ofInt 1))], [.int (Int32.ofInt 1)], h, n, 0, 0)
          refine mc_cx hmi 1 (F' := (60, [(0, .ref 0), (1, .int a), (2, .int s), (3, .int (Int32.ofInt 1))], [], h, n, 0, 0)) (by with_unfolding_all rfl) ?_
          refine mc_cx hmi 1 (F' := (61, [(0, .ref 0), (1, .int a), (2, .int s), (3, .int (Int32.ofInt 1))], [.ref 0], h, n, 0, 0)) (by with_unfolding_all rfl) ?_
          refine mc_getr hmi H (k := 0) (c := 3) (pc' := 64) rfl rfl rfl rfl rfl ?_
          refine mc_cx hmi 1 (F' := (65, [(0, .ref 0), (1, .int a), (2, .int s), (3, .int (Int32.ofInt 1))], [.int a, .ref 3], h, n, 0, 0)) (by with_unfolding_all rfl) ?_
          refine mc_aaldC hmi H (k := 3) (c := 122 + 4 * k) (t := 3) (N := 6) (i := (k : Int)) (pc' := 66) rfl rfl rfl rfl hke (by omega) (by omega) k1 rfl ?_
          refine mc_getrC hmi H (k := 122 + 4 * k) (j := 1) (pc' := 69) rfl u1.1 u2.2.1 u6.2.1 rfl ?_
          refine mc_cx hmi 1 (F' := (70, [(0, .ref 0), (1, .int a), (2, .int s), (3, .int (Int32.ofInt 1))], [.int s, .ref (124 + 4 * k)], h, n, 0, 0)) (by with_unfolding_all rfl) ?_
          refine mc_iald hmi H (k := 124 + 4 * k) (i := s.toInt) (pc' := 71) rfl u1.2.2.1 u3.2.1 rfl (by omega) (by omega) rfl (fun y ey r1 r2 => ?_)
          exact mc_ret hmi rfl rfl rfl ⟨rfl, rfl, _, rfl, Or.inr ⟨hok, k, hk6, hke, Or.inr (Or.inl ⟨by decide, ey⟩)⟩⟩
        · obtain rfl : w = Int32.ofInt 2 := Int32.toInt_inj.mp (by rw [e0]; rfl)
          show mc_R _ _ _ _ _ (22, [(0, .ref 0), (1, .int a), (2, .int s), (3, .int (Int32.ofInt 2))], [.int (Int32.ofInt 2)], h, n, 0, 0)
          refine mc_cx hmi 1 (F' := (72, [(0, .ref 0), (1, .int a), (2, .int s), (3, .int (Int32.ofInt 2))], [], h, n, 0, 0)) (by with_unfolding_all rfl) ?_
          refine mc_cx hmi 1 (F' := (73, [(0, .ref 0), (1, .int a), (2, .int s), (3, .int (Int32.ofInt 2))], [.ref 0], h, n, 0, 0)) (by with_unfolding_all rfl) ?_
          refine mc_getr hmi H (k := 0) (c := 3) (pc' := 76) rfl rfl rfl rfl rfl ?_
          refine mc_cx hmi 1 (F' := (77, [(0, .ref 0), (1, .int a), (2, .int s), (3, .int (Int32.ofInt 2))], [.int a, .ref 3], h, n, 0, 0)) (by with_unfolding_all rfl) ?_
          refine mc_aaldC hmi H (k := 3) (c := 122 + 4 * k) (t := 3) (N := 6) (i := (k : Int)) (pc' := 78) rfl rfl rfl rfl hke (by omega) (by omega) k1 rfl ?_
          refine mc_getrC hmi H (k := 122 + 4 * k) (j := 2) (pc' := 81) rfl u1.1 u2.2.2 u6.2.2 rfl ?_
          refine mc_cx hmi 1 (F' := (82, [(0, .ref 0), (1, .int a), (2, .int s), (3, .int (Int32.ofInt 2))], [.int s, .ref (125 + 4 * k)], h, n, 0, 0)) (by with_unfolding_all rfl) ?_
          refine mc_iald hmi H (k := 125 + 4 * k) (i := s.toInt) (pc' := 83) rfl u1.2.2.2 u3.2.2 rfl (by omega) (by omega) rfl (fun y ey r1 r2 => ?_)
          exact mc_ret hmi rfl rfl rfl ⟨rfl, rfl, _, rfl, Or.inr ⟨hok, k, hk6, hke, Or.inr (Or.inr (Or.inl ⟨by decide, ey⟩))⟩⟩
        · refine mc_swd hmi (t := 84) rfl e0 rfl ?_
          refine mc_cx hmi 1 (F' := (86, [(0, .ref 0), (1, .int a), (2, .int s), (3, .int w)], [.int (Int8.ofInt (-102)).toInt32], h, n, 0, 0)) (by with_unfolding_all rfl) ?_
          exact mc_ret hmi rfl rfl rfl ⟨rfl, rfl, _, rfl, Or.inr ⟨hok, k, hk6, hke, Or.inr (Or.inr (Or.inr ⟨by omega, by decide⟩))⟩⟩
      · refine mc_cx hmi 1 (F' := (20, [(0, .ref 0), (1, .int a), (2, .int s), (3, .int w)], [.int (Int8.ofInt (-101)).toInt32], h, n, 0, 0)) (by with_unfolding_all rfl) ?_
        exact mc_ret hmi rfl rfl rfl ⟨rfl, rfl, _, rfl, Or.inl ⟨fun z => by omega, by decide⟩⟩
set_option maxRecDepth 100000 in
theorem ak_X11 {l : Launch} {G : ax_T} {d : Nat} {h : ax_H} {n : Nat} (hd : 3 ≤ d) (H : mc_HW h n) (a s w : Int32) : mc_M l G d mt_X11_asks [.ref 542, .int a, .int s, .int w] h n (mc_P h n fun y => (¬ ((0 ≤ a.toInt ∧ a.toInt < ab_ri h 542 4) ∧ 0 ≤ s.toInt ∧ s.toInt ≤ 13) ∧ y.toInt = -101) ∨ (((0 ≤ a.toInt ∧ a.toInt < ab_ri h 542 4) ∧ 0 ≤ s.toInt ∧ s.toInt ≤ 13) ∧ ∃ k : Nat, k < 6 ∧ a.toInt = (k : Int) ∧ ak_Y h 546 547 548 (14 * (k : Int) + s.toInt) w y)) := by
  obtain ⟨d, rfl⟩ : ∃ e, d = e + 1 := ⟨d - 1, by omega⟩
  have hmi : mt_X11_asks ∈ mt_prog := List.mem_of_getElem? mi_X11_asks
  have hcu : 0 ≤ ab_ri h 542 4 ∧ ab_ri h 542 4 ≤ 6 := mc_frng H (k := 542) (j := 4) (ci := 11) rfl rfl
  refine mc_to hmi rfl ?_
  show mc_R _ _ _ _ _ (0, [(0, .ref 542), (1, .int a), (2, .int s), (3, .int w)], [], h, n, 0, 0)
  refine mc_cx hmi 2 (F' := (2, [(0, .ref 542), (1, .int a), (2, .int s), (3, .int w)], [.int a, .ref 542], h, n, 0, 0)) (by with_unfolding_all rfl) ?_
  refine mc_callP hmi (en := (2, .invokevirtual 138, 3, (3, 160, 11, 0), [1307, 78, 1305])) rfl (q := (mt_X11_isCustom, [.ref 542, .int a], [])) (mc_inv H (as := [.int a]) (rest := []) rfl (by with_unfolding_all rfl) rfl rfl rfl) ⟨rfl, rfl⟩ (pc' := 5) rfl (ak_c11 (by omega) H a) (fun y119 e120 => ?_)
  refine mc_cz hmi (c := .eq) (tg := 18) (pc' := 8) rfl rfl rfl rfl (fun (q121 : y119.toInt = 0) => ?_) (fun (q121 : y119.toInt ≠ 0) => ?_)
  · refine mc_cx hmi 1 (F' := (20, [(0, .ref 542), (1, .int a), (2, .int s), (3, .int w)], [.int (Int8.ofInt (-101)).toInt32], h, n, 0, 0)) (by with_unfolding_all rfl) ?_
    exact mc_ret hmi rfl rfl rfl ⟨rfl, rfl, _, rfl, Or.inl ⟨fun z => e120.elim (fun q => by omega) (fun q => q.2 z.1), by decide⟩⟩
  · have hcc := e120.elim (fun q => q.2) (fun q => absurd q.1 q121)
    refine mc_cx hmi 3 (F' := (12, [(0, .ref 542), (1, .int a), (2, .int s), (3, .int w)], [.int (Int8.ofInt 13).toInt32, .int (Int32.ofInt 0), .int s], h, n, 0, 0)) (by with_unfolding_all rfl) ?_
    refine mc_callP hmi (en := (12, .invokestatic 120, 3, (3, 152, 0, 0), [1291, 1290])) rfl (q := (mt_X11_in, [.int s, .int (Int32.ofInt 0), .int (Int8.ofInt 13).toInt32], [])) (by with_unfolding_all rfl) ⟨rfl, rfl⟩ (pc' := 15) rfl (mc_inP (by omega) s (Int32.ofInt 0) (Int8.ofInt 13).toInt32 h n) (fun y122 e123 => ?_)
    have hz : (Int32.ofInt 0).toInt = 0 ∧ ((Int8.ofInt 13).toInt32).toInt = 13 := by decide
    rw [hz.1, hz.2] at e123
    refine mc_cz hmi (c := .ne) (tg := 21) (pc' := 18) rfl rfl rfl rfl (fun (q124 : y122.toInt ≠ 0) => ?_) (fun (q124 : y122.toInt = 0) => ?_)
    · have hok : (0 ≤ a.toInt ∧ a.toInt < ab_ri h 542 4) ∧ 0 ≤ s.toInt ∧ s.toInt ≤ 13 := ⟨hcc, e123.elim (fun q => q.2) (fun q => absurd q.1 q124)⟩
      obtain ⟨k, hk6, hke⟩ : ∃ k : Nat, k < 6 ∧ a.toInt = (k : Int) := ⟨a.toInt.toNat, by omega, by omega⟩
      refine mc_cx hmi 1 (F' := (22, [(0, .ref 542), (1, .int a), (2, .int s), (3, .int w)], [.int w], h, n, 0, 0)) (by with_unfolding_all rfl) ?_
      refine mc_cz hmi (c := .ne) (tg := 39) (pc' := 25) rfl rfl rfl rfl (fun (q125 : w.toInt ≠ 0) => ?_) (fun (q125 : w.toInt = 0) => ?_)
      · refine mc_cx hmi 2 (F' := (41, [(0, .ref 542), (1, .int a), (2, .int s), (3, .int w)], [.int (Int32.ofInt 1), .int w], h, n, 0, 0)) (by with_unfolding_all rfl) ?_
        refine mc_ci hmi (c := .ne) (tg := 58) (pc' := 44) rfl rfl rfl rfl (by decide) (fun (q132 : w.toInt ≠ 1) => ?_) (fun (q132 : w.toInt = 1) => ?_)
        · refine mc_cx hmi 2 (F' := (60, [(0, .ref 542), (1, .int a), (2, .int s), (3, .int w)], [.int (Int32.ofInt 2), .int w], h, n, 0, 0)) (by with_unfolding_all rfl) ?_
          refine mc_ci hmi (c := .ne) (tg := 77) (pc' := 63) rfl rfl rfl rfl (by decide) (fun (q139 : w.toInt ≠ 2) => ?_) (fun (q139 : w.toInt = 2) => ?_)
          · refine mc_cx hmi 1 (F' := (79, [(0, .ref 542), (1, .int a), (2, .int s), (3, .int w)], [.int (Int8.ofInt (-102)).toInt32], h, n, 0, 0)) (by with_unfolding_all rfl) ?_
            exact mc_ret hmi rfl rfl rfl ⟨rfl, rfl, _, rfl, Or.inr ⟨hok, k, hk6, hke, Or.inr (Or.inr (Or.inr ⟨by omega, by decide⟩))⟩⟩
          · refine mc_cx hmi 1 (F' := (64, [(0, .ref 542), (1, .int a), (2, .int s), (3, .int w)], [.ref 542], h, n, 0, 0)) (by with_unfolding_all rfl) ?_
            refine mc_getr hmi H (k := 542) (c := 548) (pc' := 67) rfl rfl rfl rfl rfl ?_
            refine mc_cx hmi 5 (F' := (73, [(0, .ref 542), (1, .int a), (2, .int s), (3, .int w)], [.int (((Int8.ofInt 14).toInt32 * a) + s), .ref 548], h, n, 0, 0)) (by with_unfolding_all rfl) ?_
            have e140 : ((Int8.ofInt 14).toInt32 * a).toInt = 14 * (k : Int) := mc_mul (by decide) hke (by omega) (by omega)
            have e141 : (((Int8.ofInt 14).toInt32 * a) + s).toInt = (14 * (k : Int)) + s.toInt := mc_add e140 rfl (by omega) (by omega)
            refine mc_iald hmi H (k := 548) (i := ((14 * (k : Int)) + s.toInt)) (pc' := 74) rfl rfl rfl e141 (by omega) (by omega) rfl (fun y142 e143 r144 r145 => ?_)
            rw [e143] at r144 r145
            refine mc_cx hmi 1 (F' := (79, [(0, .ref 542), (1, .int a), (2, .int s), (3, .int w)], [.int y142], h, n, 0, 0)) (by with_unfolding_all rfl) ?_
            exact mc_ret hmi rfl rfl rfl ⟨rfl, rfl, _, rfl, Or.inr ⟨hok, k, hk6, hke, Or.inr (Or.inr (Or.inl ⟨q139, e143⟩))⟩⟩
        · refine mc_cx hmi 1 (F' := (45, [(0, .ref 542), (1, .int a), (2, .int s), (3, .int w)], [.ref 542], h, n, 0, 0)) (by with_unfolding_all rfl) ?_
          refine mc_getr hmi H (k := 542) (c := 547) (pc' := 48) rfl rfl rfl rfl rfl ?_
          refine mc_cx hmi 5 (F' := (54, [(0, .ref 542), (1, .int a), (2, .int s), (3, .int w)], [.int (((Int8.ofInt 14).toInt32 * a) + s), .ref 547], h, n, 0, 0)) (by with_unfolding_all rfl) ?_
          have e133 : ((Int8.ofInt 14).toInt32 * a).toInt = 14 * (k : Int) := mc_mul (by decide) hke (by omega) (by omega)
          have e134 : (((Int8.ofInt 14).toInt32 * a) + s).toInt = (14 * (k : Int)) + s.toInt := mc_add e133 rfl (by omega) (by omega)
          refine mc_iald hmi H (k := 547) (i := ((14 * (k : Int)) + s.toInt)) (pc' := 55) rfl rfl rfl e134 (by omega) (by omega) rfl (fun y135 e136 r137 r138 => ?_)
          rw [e136] at r137 r138
          refine mc_cx hmi 1 (F' := (79, [(0, .ref 542), (1, .int a), (2, .int s), (3, .int w)], [.int y135], h, n, 0, 0)) (by with_unfolding_all rfl) ?_
          exact mc_ret hmi rfl rfl rfl ⟨rfl, rfl, _, rfl, Or.inr ⟨hok, k, hk6, hke, Or.inr (Or.inl ⟨q132, e136⟩)⟩⟩
      · refine mc_cx hmi 1 (F' := (26, [(0, .ref 542), (1, .int a), (2, .int s), (3, .int w)], [.ref 542], h, n, 0, 0)) (by with_unfolding_all rfl) ?_
        refine mc_getr hmi H (k := 542) (c := 546) (pc' := 29) rfl rfl rfl rfl rfl ?_
        refine mc_cx hmi 5 (F' := (35, [(0, .ref 542), (1, .int a), (2, .int s), (3, .int w)], [.int (((Int8.ofInt 14).toInt32 * a) + s), .ref 546], h, n, 0, 0)) (by with_unfolding_all rfl) ?_
        have e126 : ((Int8.ofInt 14).toInt32 * a).toInt = 14 * (k : Int) := mc_mul (by decide) hke (by omega) (by omega)
        have e127 : (((Int8.ofInt 14).toInt32 * a) + s).toInt = (14 * (k : Int)) + s.toInt := mc_add e126 rfl (by omega) (by omega)
        refine mc_iald hmi H (k := 546) (i := ((14 * (k : Int)) + s.toInt)) (pc' := 36) rfl rfl rfl e127 (by omega) (by omega) rfl (fun y128 e129 r130 r131 => ?_)
        rw [e129] at r130 r131
        refine mc_cx hmi 1 (F' := (79, [(0, .ref 542), (1, .int a), (2, .int s), (3, .int w)], [.int y128], h, n, 0, 0)) (by with_unfolding_all rfl) ?_
        exact mc_ret hmi rfl rfl rfl ⟨rfl, rfl, _, rfl, Or.inr ⟨hok, k, hk6, hke, Or.inl ⟨q125, e129⟩⟩⟩
    · refine mc_cx hmi 1 (F' := (20, [(0, .ref 542), (1, .int a), (2, .int s), (3, .int w)], [.int (Int8.ofInt (-101)).toInt32], h, n, 0, 0)) (by with_unfolding_all rfl) ?_
      exact mc_ret hmi rfl rfl rfl ⟨rfl, rfl, _, rfl, Or.inl ⟨fun z => e123.elim (fun q => absurd q.1 (by omega)) (fun q => q.2 z.2), by decide⟩⟩
