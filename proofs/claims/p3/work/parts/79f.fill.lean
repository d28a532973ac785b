/-! ===== by hand: what fillTo calls, in the reference (ways printed by wip/hand/h_fill.py) ===== -/
set_option maxRecDepth 100000 in
theorem mc_rem {x y : Int32} {a b : Int} (hx : x.toInt = a) (hy : y.toInt = b) (h0 : 0 ≤ a) (h1 : 1 ≤ b) : (x - x / y * y).toInt = a % b := by
  rw [ab_rem_e (by omega), hx, hy, Int.tmod_eq_emod_of_nonneg h0]
set_option maxRecDepth 100000 in
theorem mc_irem {l : Launch} {G : ax_T} {mi : ax_MI} {d : Nat} {Q : Option Value → ax_H → Nat → Prop} {pc pc' len : Nat} {lv : List (Nat × Value)} {st : List Value} {h : ax_H} {n : Nat} (hmi : mi ∈ mt_prog) {pe : ax_PE} {hs : List Nat} {x y : Int32} (ha : ax_at mi.2.2.2.2.2.2.2.2 pc = some (pc, .irem, len, pe, hs)) (hy : y.toInt ≠ 0) (hp : pc + 1 = pc') (hR : mc_R l G mi d Q (pc', lv, .int (x - x / y * y) :: st, h, n, 0, 0)) : mc_R l G mi d Q (pc, lv, .int y :: .int x :: st, h, n, 0, 0) := by
  subst hp
  refine mc_stp hmi ha ?_ hR
  have : decide (y = 0) = false := decide_eq_false (fun e => hy (by rw [e]; rfl))
  simp only [ax_step, ax_s_div, this, cond_false]
set_option maxRecDepth 100000 in
theorem tk_571 {l : Launch} {G : ax_T} {d : Nat} {h : ax_H} {n : Nat} (H : mc_HW h n) (b s i : Int32) (hb : 0 ≤ b.toInt) (hi : 0 ≤ i.toInt) (his : i.toInt < s.toInt) (hN : b.toInt + s.toInt ≤ 21) : ∀ (c : Nat) (k : Int32), k.toInt + (c : Int) = s.toInt → i.toInt < k.toInt → mc_R l G mt_X11_isTaken d (mc_P h n fun y => y.toInt = if tk (ab_ri h 571) (ab_ri h 571 (b.toInt + i.toInt)) c (b.toInt + k.toInt) then 1 else 0) (5, [(0, .ref 571), (1, .int b), (2, .int s), (3, .int i), (4, .int k)], [], h, n, 0, 0) := by
  have hmi : mt_X11_isTaken ∈ mt_prog := List.mem_of_getElem? mi_X11_isTaken
  intro c
  induction c with
  | zero =>
    intro k hk hik
    refine mc_cx hmi 2 (F' := (8, [(0, .ref 571), (1, .int b), (2, .int s), (3, .int i), (4, .int k)], [.int s, .int k], h, n, 0, 0)) (by with_unfolding_all rfl) ?_
    refine mc_ci hmi (c := .ge) (tg := 31) (pc' := 11) rfl rfl rfl rfl rfl (fun (q1 : s.toInt ≤ k.toInt) => ?_) (fun (q1 : k.toInt < s.toInt) => ?_)
    · refine mc_cx hmi 2 (F' := (34, [(0, .ref 571), (1, .int b), (2, .int s), (3, .int i), (4, .int k)], [.int s, .int k], h, n, 0, 0)) (by with_unfolding_all rfl) ?_
      refine mc_ci hmi (c := .ge) (tg := 55) (pc' := 37) rfl rfl rfl rfl rfl (fun (q2 : s.toInt ≤ k.toInt) => ?_) (fun (q2 : k.toInt < s.toInt) => ?_)
      · refine mc_cx hmi 1 (F' := (56, [(0, .ref 571), (1, .int b), (2, .int s), (3, .int i), (4, .int k)], [.int (Int32.ofInt 0)], h, n, 0, 0)) (by with_unfolding_all rfl) ?_
        exact mc_ret hmi rfl rfl rfl ⟨rfl, rfl, _, rfl, rfl⟩
      · exact absurd q2 (by omega)
    · exact absurd q1 (by omega)
  | succ c ih =>
    intro k hk hik
    refine mc_cx hmi 2 (F' := (8, [(0, .ref 571), (1, .int b), (2, .int s), (3, .int i), (4, .int k)], [.int s, .int k], h, n, 0, 0)) (by with_unfolding_all rfl) ?_
    refine mc_ci hmi (c := .ge) (tg := 31) (pc' := 11) rfl rfl rfl rfl rfl (fun (q3 : s.toInt ≤ k.toInt) => ?_) (fun (q3 : k.toInt < s.toInt) => ?_)
    · exact absurd q3 (by omega)
    · refine mc_cx hmi 4 (F' := (16, [(0, .ref 571), (1, .int b), (2, .int s), (3, .int i), (4, .int k)], [.int (b + k), .ref 571], h, n, 0, 0)) (by with_unfolding_all rfl) ?_
      have e4 : (b + k).toInt = b.toInt + k.toInt := mc_add rfl rfl (by omega) (by omega)
      refine mc_iald hmi H (k := 571) (i := (b.toInt + k.toInt)) (pc' := 17) rfl rfl rfl e4 (by omega) (by omega) rfl (fun y5 e6 r7 r8 => ?_)
      rw [e6] at r7 r8
      refine mc_cx hmi 4 (F' := (21, [(0, .ref 571), (1, .int b), (2, .int s), (3, .int i), (4, .int k)], [.int (b + i), .ref 571, .int y5], h, n, 0, 0)) (by with_unfolding_all rfl) ?_
      have e9 : (b + i).toInt = b.toInt + i.toInt := mc_add rfl rfl (by omega) (by omega)
      refine mc_iald hmi H (k := 571) (i := (b.toInt + i.toInt)) (pc' := 22) rfl rfl rfl e9 (by omega) (by omega) rfl (fun y10 e11 r12 r13 => ?_)
      rw [e11] at r12 r13
      refine mc_ci hmi (c := .ne) (tg := 31) (pc' := 25) rfl rfl rfl e6 e11 (fun (q14 : ab_ri h 571 ((b.toInt + k.toInt)) ≠ ab_ri h 571 ((b.toInt + i.toInt))) => ?_) (fun (q14 : ab_ri h 571 ((b.toInt + k.toInt)) = ab_ri h 571 ((b.toInt + i.toInt))) => ?_)
      · refine mc_cx hmi 2 (F' := (34, [(0, .ref 571), (1, .int b), (2, .int s), (3, .int i), (4, .int k)], [.int s, .int k], h, n, 0, 0)) (by with_unfolding_all rfl) ?_
        refine mc_ci hmi (c := .ge) (tg := 55) (pc' := 37) rfl rfl rfl rfl rfl (fun (q15 : s.toInt ≤ k.toInt) => ?_) (fun (q15 : k.toInt < s.toInt) => ?_)
        · exact absurd q15 (by omega)
        · refine mc_cx hmi 4 (F' := (42, [(0, .ref 571), (1, .int b), (2, .int s), (3, .int i), (4, .int k)], [.int (b + k), .ref 571], h, n, 0, 0)) (by with_unfolding_all rfl) ?_
          have e16 : (b + k).toInt = b.toInt + k.toInt := mc_add rfl rfl (by omega) (by omega)
          refine mc_iald hmi H (k := 571) (i := (b.toInt + k.toInt)) (pc' := 43) rfl rfl rfl e16 (by omega) (by omega) rfl (fun y17 e18 r19 r20 => ?_)
          rw [e18] at r19 r20
          refine mc_cx hmi 4 (F' := (47, [(0, .ref 571), (1, .int b), (2, .int s), (3, .int i), (4, .int k)], [.int (b + i), .ref 571, .int y17], h, n, 0, 0)) (by with_unfolding_all rfl) ?_
          have e21 : (b + i).toInt = b.toInt + i.toInt := mc_add rfl rfl (by omega) (by omega)
          refine mc_iald hmi H (k := 571) (i := (b.toInt + i.toInt)) (pc' := 48) rfl rfl rfl e21 (by omega) (by omega) rfl (fun y22 e23 r24 r25 => ?_)
          rw [e23] at r24 r25
          refine mc_ci hmi (c := .le) (tg := 55) (pc' := 51) rfl rfl rfl e18 e23 (fun (q26 : ab_ri h 571 ((b.toInt + k.toInt)) ≤ ab_ri h 571 ((b.toInt + i.toInt))) => ?_) (fun (q26 : ab_ri h 571 ((b.toInt + i.toInt)) < ab_ri h 571 ((b.toInt + k.toInt))) => ?_)
          · refine mc_cx hmi 1 (F' := (56, [(0, .ref 571), (1, .int b), (2, .int s), (3, .int i), (4, .int k)], [.int (Int32.ofInt 0)], h, n, 0, 0)) (by with_unfolding_all rfl) ?_
            refine mc_ret hmi rfl rfl (mc_rb (by decide)) ⟨rfl, rfl, _, rfl, ?_⟩
            show _ = if (if ab_ri h 571 (b.toInt + k.toInt) = ab_ri h 571 (b.toInt + i.toInt) then _ else decide (ab_ri h 571 (b.toInt + i.toInt) < ab_ri h 571 (b.toInt + k.toInt))) = true then (1 : Int) else 0
            rw [if_neg q14, decide_eq_false (by omega)]
            rfl
          · refine mc_cx hmi 2 (F' := (56, [(0, .ref 571), (1, .int b), (2, .int s), (3, .int i), (4, .int k)], [.int (Int32.ofInt 1)], h, n, 0, 0)) (by with_unfolding_all rfl) ?_
            refine mc_ret hmi rfl rfl (mc_rb (by decide)) ⟨rfl, rfl, _, rfl, ?_⟩
            show _ = if (if ab_ri h 571 (b.toInt + k.toInt) = ab_ri h 571 (b.toInt + i.toInt) then _ else decide (ab_ri h 571 (b.toInt + i.toInt) < ab_ri h 571 (b.toInt + k.toInt))) = true then (1 : Int) else 0
            rw [if_neg q14, decide_eq_true (by omega)]
            rfl
      · refine mc_cx hmi 2 (F' := (5, [(4, .int (k + Int32.ofInt 1)), (0, .ref 571), (1, .int b), (2, .int s), (3, .int i)], [], h, n, 0, 0)) (by with_unfolding_all rfl) ?_
        have e27 : (k + Int32.ofInt 1).toInt = k.toInt + 1 := mc_add rfl (by decide) (by omega) (by omega)
        refine mc_lvs (lv' := [(0, .ref 571), (1, .int b), (2, .int s), (3, .int i), (4, .int (k + Int32.ofInt 1))]) (by simp) ?_
        refine (show (if tk (ab_ri h 571) (ab_ri h 571 (b.toInt + i.toInt)) (c + 1) (b.toInt + k.toInt) then (1 : Int) else 0) = (if tk (ab_ri h 571) (ab_ri h 571 (b.toInt + i.toInt)) c (b.toInt + (k + Int32.ofInt 1).toInt) then (1 : Int) else 0) from ?_) ▸ ih (k + Int32.ofInt 1) (by rw [e27]; omega) (by rw [e27]; omega)
        rw [e27, show tk (ab_ri h 571) (ab_ri h 571 (b.toInt + i.toInt)) (c + 1) (b.toInt + k.toInt) = tk (ab_ri h 571) (ab_ri h 571 (b.toInt + i.toInt)) c (b.toInt + k.toInt + 1) from if_pos q14, Int.add_assoc]
set_option maxRecDepth 100000 in
theorem mc_isTaken_571 {l : Launch} {G : ax_T} {d : Nat} (hd : 1 ≤ d) {h : ax_H} {n : Nat} (H : mc_HW h n) (b s i : Int32) (hb : 0 ≤ b.toInt) (hi : 0 ≤ i.toInt) (his : i.toInt < s.toInt) (hN : b.toInt + s.toInt ≤ 21) : mc_M l G d mt_X11_isTaken [.ref 571, .int b, .int s, .int i] h n (mc_P h n fun y => y.toInt = if tk (ab_ri h 571) (ab_ri h 571 (b.toInt + i.toInt)) (s.toInt - i.toInt - 1).toNat (b.toInt + i.toInt + 1) then 1 else 0) := by
  obtain ⟨d, rfl⟩ : ∃ e, d = e + 1 := ⟨d - 1, by omega⟩
  have hmi : mt_X11_isTaken ∈ mt_prog := List.mem_of_getElem? mi_X11_isTaken
  refine mc_to hmi rfl ?_
  show mc_R _ _ _ _ _ (0, [(0, .ref 571), (1, .int b), (2, .int s), (3, .int i)], [], h, n, 0, 0)
  refine mc_cx hmi 4 (F' := (5, [(4, .int (i + (Int32.ofInt 1))), (0, .ref 571), (1, .int b), (2, .int s), (3, .int i)], [], h, n, 0, 0)) (by with_unfolding_all rfl) ?_
  have e28 : (i + (Int32.ofInt 1)).toInt = i.toInt + 1 := mc_add rfl (by decide) (by omega) (by omega)
  refine mc_lvs (lv' := [(0, .ref 571), (1, .int b), (2, .int s), (3, .int i), (4, .int (i + (Int32.ofInt 1)))]) (by simp) ?_
  refine (show b.toInt + (i + (Int32.ofInt 1)).toInt = b.toInt + i.toInt + 1 by rw [e28]; omega) ▸ tk_571 H b s i hb hi his hN (s.toInt - i.toInt - 1).toNat (i + (Int32.ofInt 1)) (by rw [e28]; omega) (by rw [e28]; omega)
set_option maxRecDepth 100000 in
theorem wo_loop {l : Launch} {G : ax_T} {d : Nat} {h : ax_H} {n : Nat} (hd : 1 ≤ d) (H : mc_HW h n) (f s : Int32) (hf : f.toInt = 0) (hs : s.toInt ≤ 21) (h13 : ∀ j : Int, 0 ≤ j → j < s.toInt → ab_ri h 571 j ≤ 13) : ∀ (c j : Nat) (a i : Int32), (j : Int) + (c : Int) = s.toInt → i.toInt = (j : Int) → -1000000 * (j : Int) ≤ a.toInt → a.toInt ≤ 1000000 * (j : Int) → mc_R l G mt_X11_worthOf d (mc_P h n fun _ => True) (6, [(0, .ref 542), (1, .ref 571), (2, .int f), (3, .int s), (4, .int a), (5, .int i)], [], h, n, 0, 0) := by
  have hmi : mt_X11_worthOf ∈ mt_prog := List.mem_of_getElem? mi_X11_worthOf
  intro c
  induction c with
  | zero =>
    intro j a i hj hi ha0 ha1
    refine mc_cx hmi 2 (F' := (9, [(0, .ref 542), (1, .ref 571), (2, .int f), (3, .int s), (4, .int a), (5, .int i)], [.int s, .int i], h, n, 0, 0)) (by with_unfolding_all rfl) ?_
    refine mc_ci hmi (c := .ge) (tg := 60) (pc' := 12) rfl rfl rfl hi rfl (fun (q29 : s.toInt ≤ (j : Int)) => ?_) (fun (q29 : (j : Int) < s.toInt) => ?_)
    · refine mc_cx hmi 1 (F' := (62, [(0, .ref 542), (1, .ref 571), (2, .int f), (3, .int s), (4, .int a), (5, .int i)], [.int a], h, n, 0, 0)) (by with_unfolding_all rfl) ?_
      exact mc_ret hmi rfl rfl rfl ⟨rfl, rfl, _, rfl, trivial⟩
    · exact absurd q29 (by omega)
  | succ c ih =>
    intro j a i hj hi ha0 ha1
    refine mc_cx hmi 2 (F' := (9, [(0, .ref 542), (1, .ref 571), (2, .int f), (3, .int s), (4, .int a), (5, .int i)], [.int s, .int i], h, n, 0, 0)) (by with_unfolding_all rfl) ?_
    refine mc_ci hmi (c := .ge) (tg := 60) (pc' := 12) rfl rfl rfl hi rfl (fun (q30 : s.toInt ≤ (j : Int)) => ?_) (fun (q30 : (j : Int) < s.toInt) => ?_)
    · exact absurd q30 (by omega)
    · refine mc_cx hmi 5 (F' := (19, [(0, .ref 542), (1, .ref 571), (2, .int f), (3, .int s), (4, .int a), (5, .int i)], [.int i, .int s, .int f, .ref 571, .int a], h, n, 0, 0)) (by with_unfolding_all rfl) ?_
      have h13j := h13 (0 + (j : Int)) (by omega) (by omega)
      have key : ∀ u : Int32, -1000000 ≤ u.toInt → u.toInt ≤ 1000000 → mc_R l G mt_X11_worthOf d (mc_P h n fun _ => True) (51, [(0, .ref 542), (1, .ref 571), (2, .int f), (3, .int s), (4, .int a), (5, .int i)], [.int u, .int a], h, n, 0, 0) := by
        intro u hu0 hu1
        refine mc_cx hmi 4 (F' := (6, [(5, .int (i + Int32.ofInt 1)), (4, .int (a + u)), (0, .ref 542), (1, .ref 571), (2, .int f), (3, .int s)], [], h, n, 0, 0)) (by with_unfolding_all rfl) ?_
        have e31 : (a + u).toInt = a.toInt + u.toInt := mc_add rfl rfl (by omega) (by omega)
        have e32 : (i + Int32.ofInt 1).toInt = (j : Int) + 1 := mc_add hi (by decide) (by omega) (by omega)
        refine mc_lvs (lv' := [(0, .ref 542), (1, .ref 571), (2, .int f), (3, .int s), (4, .int (a + u)), (5, .int (i + Int32.ofInt 1))]) (by simp) ?_
        exact ih (j + 1) (a + u) (i + Int32.ofInt 1) (by omega) (by rw [e32]; omega) (by rw [e31]; omega) (by rw [e31]; omega)
      refine mc_callP hmi (en := (19, .invokestatic 145, 3, (3, 165, 0, 0), [1329, 1328])) rfl (q := (mt_X11_isTaken, [.ref 571, .int f, .int s, .int i], [.int a])) (by with_unfolding_all rfl) ⟨rfl, rfl⟩ (pc' := 22) rfl (mc_isTaken_571 hd H f s i (by omega) (by omega) (by omega) (by omega)) (fun y33 e34 => ?_)
      refine mc_cz hmi (c := .eq) (tg := 40) (pc' := 25) rfl rfl rfl rfl (fun (q35 : y33.toInt = 0) => ?_) (fun (q35 : y33.toInt ≠ 0) => ?_)
      · refine mc_cx hmi 1 (F' := (41, [(0, .ref 542), (1, .ref 571), (2, .int f), (3, .int s), (4, .int a), (5, .int i)], [.ref 542, .int a], h, n, 0, 0)) (by with_unfolding_all rfl) ?_
        refine mc_getr hmi H (k := 542) (c := 543) (pc' := 44) rfl rfl rfl rfl rfl ?_
        refine mc_cx hmi 4 (F' := (49, [(0, .ref 542), (1, .ref 571), (2, .int f), (3, .int s), (4, .int a), (5, .int i)], [.int (f + i), .ref 571, .ref 543, .int a], h, n, 0, 0)) (by with_unfolding_all rfl) ?_
        have e36 : (f + i).toInt = 0 + (j : Int) := mc_add hf hi (by omega) (by omega)
        refine mc_iald hmi H (k := 571) (i := (0 + (j : Int))) (pc' := 50) rfl rfl rfl e36 (by omega) (by omega) rfl (fun y37 e38 r39 r40 => ?_)
        rw [e38] at r39 r40
        refine mc_iald hmi H (k := 543) (i := ab_ri h 571 ((0 + (j : Int)))) (pc' := 51) rfl rfl rfl e38 (by omega) (by omega) rfl (fun y41 e42 r43 r44 => ?_)
        rw [e42] at r43 r44
        exact key _ (by rw [e42]; omega) (by rw [e42]; omega)
      · refine mc_cx hmi 1 (F' := (26, [(0, .ref 542), (1, .ref 571), (2, .int f), (3, .int s), (4, .int a), (5, .int i)], [.ref 542, .int a], h, n, 0, 0)) (by with_unfolding_all rfl) ?_
        refine mc_getr hmi H (k := 542) (c := 543) (pc' := 29) rfl rfl rfl rfl rfl ?_
        refine mc_cx hmi 4 (F' := (34, [(0, .ref 542), (1, .ref 571), (2, .int f), (3, .int s), (4, .int a), (5, .int i)], [.int (f + i), .ref 571, .ref 543, .int a], h, n, 0, 0)) (by with_unfolding_all rfl) ?_
        have e45 : (f + i).toInt = 0 + (j : Int) := mc_add hf hi (by omega) (by omega)
        refine mc_iald hmi H (k := 571) (i := (0 + (j : Int))) (pc' := 35) rfl rfl rfl e45 (by omega) (by omega) rfl (fun y46 e47 r48 r49 => ?_)
        rw [e47] at r48 r49
        refine mc_iald hmi H (k := 543) (i := ab_ri h 571 ((0 + (j : Int)))) (pc' := 36) rfl rfl rfl e47 (by omega) (by omega) rfl (fun y50 e51 r52 r53 => ?_)
        rw [e51] at r52 r53
        refine mc_cx hmi 2 (F' := (51, [(0, .ref 542), (1, .ref 571), (2, .int f), (3, .int s), (4, .int a), (5, .int i)], [.int (-y50), .int a], h, n, 0, 0)) (by with_unfolding_all rfl) ?_
        have e54 : (-y50).toInt = -ab_ri h 543 (ab_ri h 571 ((0 + (j : Int)))) := mc_neg e51 (by omega)
        exact key _ (by rw [e54]; omega) (by rw [e54]; omega)
set_option maxRecDepth 100000 in
theorem mc_worthOf {l : Launch} {G : ax_T} {d : Nat} {h : ax_H} {n : Nat} (hd : 2 ≤ d) (H : mc_HW h n) (f s : Int32) (hf : f.toInt = 0) (hs0 : 0 ≤ s.toInt) (hs : s.toInt ≤ 21) (h13 : ∀ j : Int, 0 ≤ j → j < s.toInt → ab_ri h 571 j ≤ 13) : mc_M l G d mt_X11_worthOf [.ref 542, .ref 571, .int f, .int s] h n (mc_P h n fun _ => True) := by
  obtain ⟨d, rfl⟩ : ∃ e, d = e + 1 := ⟨d - 1, by omega⟩
  have hmi : mt_X11_worthOf ∈ mt_prog := List.mem_of_getElem? mi_X11_worthOf
  refine mc_to hmi rfl ?_
  show mc_R _ _ _ _ _ (0, [(0, .ref 542), (1, .ref 571), (2, .int f), (3, .int s)], [], h, n, 0, 0)
  refine mc_cx hmi 4 (F' := (6, [(5, .int (Int32.ofInt 0)), (4, .int (Int32.ofInt 0)), (0, .ref 542), (1, .ref 571), (2, .int f), (3, .int s)], [], h, n, 0, 0)) (by with_unfolding_all rfl) ?_
  refine mc_lvs (lv' := [(0, .ref 542), (1, .ref 571), (2, .int f), (3, .int s), (4, .int (Int32.ofInt 0)), (5, .int (Int32.ofInt 0))]) (by simp) ?_
  exact wo_loop (by omega) H f s hf hs h13 s.toInt.toNat 0 _ _ (by omega) rfl (by decide) (by decide)
set_option maxRecDepth 100000 in
theorem mc_mayTake {l : Launch} {G : ax_T} {d : Nat} {h : ax_H} {n : Nat} (hd : 1 ≤ d) (H : mc_HW h n) (k a b t : Int32) (hk0 : 0 ≤ k.toInt) (hk1 : k.toInt ≤ 5) (ha0 : 0 ≤ a.toInt) (ha1 : a.toInt ≤ 13) : mc_M l G d mt_X11_mayTake [.ref 542, .int k, .int a, .int b, .int t] h n (mc_P h n fun y => y.toInt = 0 ∨ y.toInt = 1) := by
  obtain ⟨d, rfl⟩ : ∃ e, d = e + 1 := ⟨d - 1, by omega⟩
  have hmi : mt_X11_mayTake ∈ mt_prog := List.mem_of_getElem? mi_X11_mayTake
  refine mc_to hmi rfl ?_
  show mc_R _ _ _ _ _ (0, [(0, .ref 542), (1, .int k), (2, .int a), (3, .int b), (4, .int t)], [], h, n, 0, 0)
  have key : ∀ u : Int32, mc_R l G mt_X11_mayTake d (mc_P h n fun y => y.toInt = 0 ∨ y.toInt = 1) (41, [(0, .ref 542), (1, .int k), (2, .int a), (3, .int b), (4, .int t)], [.int u], h, n, 0, 0) := by
    intro u
    refine mc_cx hmi 7 (F' := (50, [(5, .int u), (0, .ref 542), (1, .int k), (2, .int a), (3, .int b), (4, .int t)], [.int (Int32.ofInt 1), .int ((u >>> (b &&& 31)) &&& (Int32.ofInt 1))], h, n, 0, 0)) (by with_unfolding_all rfl) ?_
    refine mc_ci hmi (c := .ne) (tg := 57) (pc' := 53) rfl rfl rfl rfl (by decide) (fun (q55 : (((u >>> (b &&& 31)) &&& (Int32.ofInt 1))).toInt ≠ 1) => ?_) (fun (q55 : (((u >>> (b &&& 31)) &&& (Int32.ofInt 1))).toInt = 1) => ?_)
    · refine mc_cx hmi 1 (F' := (58, [(5, .int u), (0, .ref 542), (1, .int k), (2, .int a), (3, .int b), (4, .int t)], [.int (Int32.ofInt 0)], h, n, 0, 0)) (by with_unfolding_all rfl) ?_
      exact mc_ret hmi rfl rfl rfl ⟨rfl, rfl, _, rfl, by decide⟩
    · refine mc_cx hmi 2 (F' := (58, [(5, .int u), (0, .ref 542), (1, .int k), (2, .int a), (3, .int b), (4, .int t)], [.int (Int32.ofInt 1)], h, n, 0, 0)) (by with_unfolding_all rfl) ?_
      exact mc_ret hmi rfl rfl rfl ⟨rfl, rfl, _, rfl, by decide⟩
  refine mc_cx hmi 2 (F' := (3, [(0, .ref 542), (1, .int k), (2, .int a), (3, .int b), (4, .int t)], [.int (Int32.ofInt 1), .int t], h, n, 0, 0)) (by with_unfolding_all rfl) ?_
  refine mc_ci hmi (c := .ne) (tg := 20) (pc' := 6) rfl rfl rfl rfl (by decide) (fun (q56 : t.toInt ≠ 1) => ?_) (fun (q56 : t.toInt = 1) => ?_)
  · refine mc_cx hmi 2 (F' := (23, [(0, .ref 542), (1, .int k), (2, .int a), (3, .int b), (4, .int t)], [.int (Int32.ofInt 2), .int t], h, n, 0, 0)) (by with_unfolding_all rfl) ?_
    refine mc_ci hmi (c := .ne) (tg := 40) (pc' := 26) rfl rfl rfl rfl (by decide) (fun (q63 : t.toInt ≠ 2) => ?_) (fun (q63 : t.toInt = 2) => ?_)
    · refine mc_cx hmi 1 (F' := (41, [(0, .ref 542), (1, .int k), (2, .int a), (3, .int b), (4, .int t)], [.int (Int32.ofInt 0)], h, n, 0, 0)) (by with_unfolding_all rfl) ?_
      exact key _
    · refine mc_cx hmi 1 (F' := (27, [(0, .ref 542), (1, .int k), (2, .int a), (3, .int b), (4, .int t)], [.ref 542], h, n, 0, 0)) (by with_unfolding_all rfl) ?_
      refine mc_getr hmi H (k := 542) (c := 548) (pc' := 30) rfl rfl rfl rfl rfl ?_
      refine mc_cx hmi 5 (F' := (36, [(0, .ref 542), (1, .int k), (2, .int a), (3, .int b), (4, .int t)], [.int (((Int8.ofInt 14).toInt32 * k) + a), .ref 548], h, n, 0, 0)) (by with_unfolding_all rfl) ?_
      have e64 : ((Int8.ofInt 14).toInt32 * k).toInt = 14 * k.toInt := mc_mul (by decide) rfl (by omega) (by omega)
      have e65 : (((Int8.ofInt 14).toInt32 * k) + a).toInt = (14 * k.toInt) + a.toInt := mc_add e64 rfl (by omega) (by omega)
      refine mc_iald hmi H (k := 548) (i := ((14 * k.toInt) + a.toInt)) (pc' := 37) rfl rfl rfl e65 (by omega) (by omega) rfl (fun y66 e67 r68 r69 => ?_)
      rw [e67] at r68 r69
      refine mc_cx hmi 1 (F' := (41, [(0, .ref 542), (1, .int k), (2, .int a), (3, .int b), (4, .int t)], [.int y66], h, n, 0, 0)) (by with_unfolding_all rfl) ?_
      exact key _
  · refine mc_cx hmi 1 (F' := (7, [(0, .ref 542), (1, .int k), (2, .int a), (3, .int b), (4, .int t)], [.ref 542], h, n, 0, 0)) (by with_unfolding_all rfl) ?_
    refine mc_getr hmi H (k := 542) (c := 547) (pc' := 10) rfl rfl rfl rfl rfl ?_
    refine mc_cx hmi 5 (F' := (16, [(0, .ref 542), (1, .int k), (2, .int a), (3, .int b), (4, .int t)], [.int (((Int8.ofInt 14).toInt32 * k) + a), .ref 547], h, n, 0, 0)) (by with_unfolding_all rfl) ?_
    have e57 : ((Int8.ofInt 14).toInt32 * k).toInt = 14 * k.toInt := mc_mul (by decide) rfl (by omega) (by omega)
    have e58 : (((Int8.ofInt 14).toInt32 * k) + a).toInt = (14 * k.toInt) + a.toInt := mc_add e57 rfl (by omega) (by omega)
    refine mc_iald hmi H (k := 547) (i := ((14 * k.toInt) + a.toInt)) (pc' := 17) rfl rfl rfl e58 (by omega) (by omega) rfl (fun y59 e60 r61 r62 => ?_)
    rw [e60] at r61 r62
    refine mc_cx hmi 1 (F' := (41, [(0, .ref 542), (1, .int k), (2, .int a), (3, .int b), (4, .int t)], [.int y59], h, n, 0, 0)) (by with_unfolding_all rfl) ?_
    exact key _
