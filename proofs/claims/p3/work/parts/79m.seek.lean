/-! ===== by hand: what seek calls, in the reference (ways printed by wip/hand/h_seek.py) ===== -/
def sg (t : Int) : Int := if t = 0 then 0 else if t < 15 then 2 else 3
set_option maxRecDepth 100000 in
theorem sg_b (t : Int) : 0 ≤ sg t ∧ sg t ≤ 3 := by unfold sg; split <;> (try split) <;> omega
def rk (t : Int) : Int := if t = 0 then 28 else if t < 15 then 13 + t else t - 15
def lvl (h : ax_H) (j : Nat) : Int := (ab_ri h 560 (j : Int) + 1) * 29 + rk (ab_ri h 561 (j : Int))
def fS (h : ax_H) (j : Nat) : Int := ab_ri h 560 (j : Int) + sg (ab_ri h 561 (j : Int))
set_option maxRecDepth 100000 in
theorem mc_signsOf {l : Launch} {G : ax_T} {d : Nat} {h : ax_H} {n : Nat} (hd : 1 ≤ d) (t : Int32) : mc_M l G d mt_X11_signsOf [.int t] h n (mc_P h n fun y => y.toInt = sg t.toInt) := by
  obtain ⟨d, rfl⟩ : ∃ e, d = e + 1 := ⟨d - 1, by omega⟩
  have hmi : mt_X11_signsOf ∈ mt_prog := List.mem_of_getElem? mi_X11_signsOf
  refine mc_to hmi rfl ?_
  show mc_R _ _ _ _ _ (0, [(0, .int t)], [], h, n, 0, 0)
  refine mc_cx hmi 1 (F' := (1, [(0, .int t)], [.int t], h, n, 0, 0)) (by with_unfolding_all rfl) ?_
  refine mc_cz hmi (c := .ne) (tg := 8) (pc' := 4) rfl rfl rfl rfl (fun (q1 : t.toInt ≠ 0) => ?_) (fun (q1 : t.toInt = 0) => ?_)
  · refine mc_cx hmi 2 (F' := (11, [(0, .int t)], [.int (Int8.ofInt 15).toInt32, .int t], h, n, 0, 0)) (by with_unfolding_all rfl) ?_
    refine mc_ci hmi (c := .ge) (tg := 18) (pc' := 14) rfl rfl rfl rfl (by decide) (fun (q2 : 15 ≤ t.toInt) => ?_) (fun (q2 : t.toInt < 15) => ?_)
    · refine mc_cx hmi 1 (F' := (19, [(0, .int t)], [.int (Int32.ofInt 3)], h, n, 0, 0)) (by with_unfolding_all rfl) ?_
      exact mc_ret hmi rfl rfl rfl ⟨rfl, rfl, _, rfl, by show _ = sg t.toInt; unfold sg; rw [if_neg q1, if_neg (show ¬ t.toInt < 15 by omega)]; decide⟩
    · refine mc_cx hmi 2 (F' := (19, [(0, .int t)], [.int (Int32.ofInt 2)], h, n, 0, 0)) (by with_unfolding_all rfl) ?_
      exact mc_ret hmi rfl rfl rfl ⟨rfl, rfl, _, rfl, by show _ = sg t.toInt; unfold sg; rw [if_neg q1, if_pos q2]; decide⟩
  · refine mc_cx hmi 2 (F' := (19, [(0, .int t)], [.int (Int32.ofInt 0)], h, n, 0, 0)) (by with_unfolding_all rfl) ?_
    exact mc_ret hmi rfl rfl rfl ⟨rfl, rfl, _, rfl, by show _ = sg t.toInt; unfold sg; rw [if_pos q1]; decide⟩
set_option maxRecDepth 100000 in
theorem mc_isAllowed {l : Launch} {G : ax_T} {d : Nat} {h : ax_H} {n : Nat} (hd : 2 ≤ d) (H : mc_HW h n) (k a : Int32) (hk0 : 0 ≤ k.toInt) (hk1 : k.toInt ≤ 5) {j : Nat} (hj : j ≤ 13) (ha : a.toInt = (j : Int)) : mc_M l G d mt_X11_isAllowed [.ref 542, .int k, .int a] h n (mc_P h n fun y => y.toInt = 0 ∨ y.toInt = 1) := by
  obtain ⟨d, rfl⟩ : ∃ e, d = e + 1 := ⟨d - 1, by omega⟩
  have hmi : mt_X11_isAllowed ∈ mt_prog := List.mem_of_getElem? mi_X11_isAllowed
  refine mc_to hmi rfl ?_
  show mc_R _ _ _ _ _ (0, [(0, .ref 542), (1, .int k), (2, .int a)], [], h, n, 0, 0)
  refine mc_cx hmi 1 (F' := (1, [(0, .ref 542), (1, .int k), (2, .int a)], [.ref 542], h, n, 0, 0)) (by with_unfolding_all rfl) ?_
  refine mc_getr hmi H (k := 542) (c := 561) (pc' := 4) rfl rfl rfl rfl rfl ?_
  refine mc_cx hmi 1 (F' := (5, [(0, .ref 542), (1, .int k), (2, .int a)], [.int a, .ref 561], h, n, 0, 0)) (by with_unfolding_all rfl) ?_
  refine mc_iald hmi H (k := 561) (i := (j : Int)) (pc' := 6) rfl rfl rfl ha (by omega) (by omega) rfl (fun y3 e4 r5 r6 => ?_)
  rw [e4] at r5 r6
  refine mc_cx hmi 2 (F' := (8, [(3, .int y3), (0, .ref 542), (1, .int k), (2, .int a)], [.int y3], h, n, 0, 0)) (by with_unfolding_all rfl) ?_
  refine mc_cz hmi (c := .ne) (tg := 13) (pc' := 11) rfl rfl rfl e4 (fun (q7 : ab_ri h 561 ((j : Int)) ≠ 0) => ?_) (fun (q7 : ab_ri h 561 ((j : Int)) = 0) => ?_)
  · have key : ∀ u : Int32, 0 ≤ u.toInt → mc_R l G mt_X11_isAllowed d (mc_P h n fun y => y.toInt = 0 ∨ y.toInt = 1) (29, [(3, .int y3), (0, .ref 542), (1, .int k), (2, .int a)], [.int u], h, n, 0, 0) := by
      intro u hu
      refine mc_cx hmi 3 (F' := (33, [(4, .int u), (3, .int y3), (0, .ref 542), (1, .int k), (2, .int a)], [.ref 542, .int a], h, n, 0, 0)) (by with_unfolding_all rfl) ?_
      refine mc_getr hmi H (k := 542) (c := 562) (pc' := 36) rfl rfl rfl rfl rfl ?_
      refine mc_cx hmi 1 (F' := (37, [(4, .int u), (3, .int y3), (0, .ref 542), (1, .int k), (2, .int a)], [.int a, .ref 562, .int a], h, n, 0, 0)) (by with_unfolding_all rfl) ?_
      refine mc_iald hmi H (k := 562) (i := (j : Int)) (pc' := 38) rfl rfl rfl ha (by omega) (by omega) rfl (fun y8 e9 r10 r11 => ?_)
      rw [e9] at r10 r11
      refine mc_ci hmi (c := .ge) (tg := 73) (pc' := 41) rfl rfl rfl ha e9 (fun (q12 : ab_ri h 562 ((j : Int)) ≤ (j : Int)) => ?_) (fun (q12 : (j : Int) < ab_ri h 562 ((j : Int))) => ?_)
      · refine mc_cx hmi 1 (F' := (74, [(4, .int u), (3, .int y3), (0, .ref 542), (1, .int k), (2, .int a)], [.int (Int32.ofInt 0)], h, n, 0, 0)) (by with_unfolding_all rfl) ?_
        exact mc_ret hmi rfl rfl rfl ⟨rfl, rfl, _, rfl, by decide⟩
      · refine mc_cx hmi 2 (F' := (44, [(4, .int u), (3, .int y3), (0, .ref 542), (1, .int k), (2, .int a)], [.int a, .int u], h, n, 0, 0)) (by with_unfolding_all rfl) ?_
        refine mc_ci hmi (c := .ge) (tg := 73) (pc' := 47) rfl rfl rfl rfl ha (fun (q13 : (j : Int) ≤ u.toInt) => ?_) (fun (q13 : u.toInt < (j : Int)) => ?_)
        · refine mc_cx hmi 1 (F' := (74, [(4, .int u), (3, .int y3), (0, .ref 542), (1, .int k), (2, .int a)], [.int (Int32.ofInt 0)], h, n, 0, 0)) (by with_unfolding_all rfl) ?_
          exact mc_ret hmi rfl rfl rfl ⟨rfl, rfl, _, rfl, by decide⟩
        · refine mc_cx hmi 6 (F' := (55, [(4, .int u), (3, .int y3), (0, .ref 542), (1, .int k), (2, .int a)], [.int (Int8.ofInt 15).toInt32, .int y3, .int a, .int u, .int k, .ref 542], h, n, 0, 0)) (by with_unfolding_all rfl) ?_
          have k2 : ∀ v : Int32, mc_R l G mt_X11_isAllowed d (mc_P h n fun y => y.toInt = 0 ∨ y.toInt = 1) (63, [(4, .int u), (3, .int y3), (0, .ref 542), (1, .int k), (2, .int a)], [.int v, .int a, .int u, .int k, .ref 542], h, n, 0, 0) := by
            intro v
            refine mc_callP hmi (en := (63, .invokevirtual 154, 3, (3, 169, 11, 0), [1342, 81, 1340])) rfl (q := (mt_X11_mayTake, [.ref 542, .int k, .int u, .int a, .int v], [])) (mc_inv H (as := [.int k, .int u, .int a, .int v]) (rest := []) rfl (by with_unfolding_all rfl) rfl rfl rfl) ⟨rfl, rfl⟩ (pc' := 66) rfl (mc_mayTake (by omega) H k u a v hk0 hk1 hu (by omega)) (fun y14 e15 => ?_)
            refine mc_cz hmi (c := .eq) (tg := 73) (pc' := 69) rfl rfl rfl rfl (fun (q16 : y14.toInt = 0) => ?_) (fun (q16 : y14.toInt ≠ 0) => ?_)
            · refine mc_cx hmi 1 (F' := (74, [(4, .int u), (3, .int y3), (0, .ref 542), (1, .int k), (2, .int a)], [.int (Int32.ofInt 0)], h, n, 0, 0)) (by with_unfolding_all rfl) ?_
              exact mc_ret hmi rfl rfl rfl ⟨rfl, rfl, _, rfl, by decide⟩
            · refine mc_cx hmi 2 (F' := (74, [(4, .int u), (3, .int y3), (0, .ref 542), (1, .int k), (2, .int a)], [.int (Int32.ofInt 1)], h, n, 0, 0)) (by with_unfolding_all rfl) ?_
              exact mc_ret hmi rfl rfl rfl ⟨rfl, rfl, _, rfl, by decide⟩
          refine mc_ci hmi (c := .ge) (tg := 62) (pc' := 58) rfl rfl rfl e4 (by decide) (fun (q17 : 15 ≤ ab_ri h 561 ((j : Int))) => ?_) (fun (q17 : ab_ri h 561 ((j : Int)) < 15) => ?_)
          · refine mc_cx hmi 1 (F' := (63, [(4, .int u), (3, .int y3), (0, .ref 542), (1, .int k), (2, .int a)], [.int (Int32.ofInt 2), .int a, .int u, .int k, .ref 542], h, n, 0, 0)) (by with_unfolding_all rfl) ?_
            exact k2 _
          · refine mc_cx hmi 2 (F' := (63, [(4, .int u), (3, .int y3), (0, .ref 542), (1, .int k), (2, .int a)], [.int (Int32.ofInt 1), .int a, .int u, .int k, .ref 542], h, n, 0, 0)) (by with_unfolding_all rfl) ?_
            exact k2 _
    refine mc_cx hmi 2 (F' := (16, [(3, .int y3), (0, .ref 542), (1, .int k), (2, .int a)], [.int (Int8.ofInt 15).toInt32, .int y3], h, n, 0, 0)) (by with_unfolding_all rfl) ?_
    refine mc_ci hmi (c := .ge) (tg := 25) (pc' := 19) rfl rfl rfl e4 (by decide) (fun (q18 : 15 ≤ ab_ri h 561 ((j : Int))) => ?_) (fun (q18 : ab_ri h 561 ((j : Int)) < 15) => ?_)
    · refine mc_cx hmi 3 (F' := (29, [(3, .int y3), (0, .ref 542), (1, .int k), (2, .int a)], [.int (y3 - (Int8.ofInt 15).toInt32)], h, n, 0, 0)) (by with_unfolding_all rfl) ?_
      have e19 : (y3 - (Int8.ofInt 15).toInt32).toInt = ab_ri h 561 ((j : Int)) - 15 := mc_sub e4 (by decide) (by omega) (by omega)
      exact key _ (by rw [e19]; omega)
    · refine mc_cx hmi 4 (F' := (29, [(3, .int y3), (0, .ref 542), (1, .int k), (2, .int a)], [.int (y3 - (Int32.ofInt 1))], h, n, 0, 0)) (by with_unfolding_all rfl) ?_
      have e20 : (y3 - (Int32.ofInt 1)).toInt = ab_ri h 561 ((j : Int)) - 1 := mc_sub e4 (by decide) (by omega) (by omega)
      exact key _ (by rw [e20]; omega)
  · refine mc_cx hmi 1 (F' := (12, [(3, .int y3), (0, .ref 542), (1, .int k), (2, .int a)], [.int (Int32.ofInt 1)], h, n, 0, 0)) (by with_unfolding_all rfl) ?_
    exact mc_ret hmi rfl rfl rfl ⟨rfl, rfl, _, rfl, by decide⟩
set_option maxRecDepth 100000 in
theorem mc_worthBy {l : Launch} {G : ax_T} {d : Nat} {h : ax_H} {n : Nat} (hd : 1 ≤ d) (H : mc_HW h n) (a : Int32) {j : Nat} (hj : j ≤ 13) (ha : a.toInt = (j : Int)) : mc_M l G d mt_X11_worthBy [.ref 542, .int a] h n (mc_P h n fun _ => True) := by
  obtain ⟨d, rfl⟩ : ∃ e, d = e + 1 := ⟨d - 1, by omega⟩
  have hmi : mt_X11_worthBy ∈ mt_prog := List.mem_of_getElem? mi_X11_worthBy
  refine mc_to hmi rfl ?_
  show mc_R _ _ _ _ _ (0, [(0, .ref 542), (1, .int a)], [], h, n, 0, 0)
  refine mc_cx hmi 1 (F' := (1, [(0, .ref 542), (1, .int a)], [.ref 542], h, n, 0, 0)) (by with_unfolding_all rfl) ?_
  refine mc_getr hmi H (k := 542) (c := 561) (pc' := 4) rfl rfl rfl rfl rfl ?_
  refine mc_cx hmi 1 (F' := (5, [(0, .ref 542), (1, .int a)], [.int a, .ref 561], h, n, 0, 0)) (by with_unfolding_all rfl) ?_
  refine mc_iald hmi H (k := 561) (i := (j : Int)) (pc' := 6) rfl rfl rfl ha (by omega) (by omega) rfl (fun y21 e22 r23 r24 => ?_)
  rw [e22] at r23 r24
  refine mc_cx hmi 2 (F' := (8, [(2, .int y21), (0, .ref 542), (1, .int a)], [.ref 542], h, n, 0, 0)) (by with_unfolding_all rfl) ?_
  refine mc_getr hmi H (k := 542) (c := 560) (pc' := 11) rfl rfl rfl rfl rfl ?_
  refine mc_cx hmi 1 (F' := (12, [(2, .int y21), (0, .ref 542), (1, .int a)], [.int a, .ref 560], h, n, 0, 0)) (by with_unfolding_all rfl) ?_
  refine mc_iald hmi H (k := 560) (i := (j : Int)) (pc' := 13) rfl rfl rfl ha (by omega) (by omega) rfl (fun y25 e26 r27 r28 => ?_)
  rw [e26] at r27 r28
  refine mc_cx hmi 1 (F' := (14, [(2, .int y21), (0, .ref 542), (1, .int a)], [.ref 542, .int y25], h, n, 0, 0)) (by with_unfolding_all rfl) ?_
  refine mc_getr hmi H (k := 542) (c := 543) (pc' := 17) rfl rfl rfl rfl rfl ?_
  refine mc_cx hmi 1 (F' := (18, [(2, .int y21), (0, .ref 542), (1, .int a)], [.int a, .ref 543, .int y25], h, n, 0, 0)) (by with_unfolding_all rfl) ?_
  refine mc_iald hmi H (k := 543) (i := (j : Int)) (pc' := 19) rfl rfl rfl ha (by omega) (by omega) rfl (fun y29 e30 r31 r32 => ?_)
  rw [e30] at r31 r32
  refine mc_cx hmi 3 (F' := (22, [(3, .int (y25 * y29)), (2, .int y21), (0, .ref 542), (1, .int a)], [.int y21], h, n, 0, 0)) (by with_unfolding_all rfl) ?_
  refine mc_cz hmi (c := .ne) (tg := 29) (pc' := 25) rfl rfl rfl e22 (fun (q33 : ab_ri h 561 ((j : Int)) ≠ 0) => ?_) (fun (q33 : ab_ri h 561 ((j : Int)) = 0) => ?_)
  · refine mc_cx hmi 2 (F' := (32, [(3, .int (y25 * y29)), (2, .int y21), (0, .ref 542), (1, .int a)], [.int (Int8.ofInt 15).toInt32, .int y21], h, n, 0, 0)) (by with_unfolding_all rfl) ?_
    refine mc_ci hmi (c := .ge) (tg := 55) (pc' := 35) rfl rfl rfl e22 (by decide) (fun (q34 : 15 ≤ ab_ri h 561 ((j : Int))) => ?_) (fun (q34 : ab_ri h 561 ((j : Int)) < 15) => ?_)
    · refine mc_cx hmi 2 (F' := (57, [(3, .int (y25 * y29)), (2, .int y21), (0, .ref 542), (1, .int a)], [.ref 542, .int (y25 * y29)], h, n, 0, 0)) (by with_unfolding_all rfl) ?_
      refine mc_getr hmi H (k := 542) (c := 543) (pc' := 60) rfl rfl rfl rfl rfl ?_
      refine mc_cx hmi 1 (F' := (61, [(3, .int (y25 * y29)), (2, .int y21), (0, .ref 542), (1, .int a)], [.int a, .ref 543, .int (y25 * y29)], h, n, 0, 0)) (by with_unfolding_all rfl) ?_
      refine mc_iald hmi H (k := 543) (i := (j : Int)) (pc' := 62) rfl rfl rfl ha (by omega) (by omega) rfl (fun y35 e36 r37 r38 => ?_)
      rw [e36] at r37 r38
      refine mc_cx hmi 3 (F' := (65, [(3, .int (y25 * y29)), (2, .int y21), (0, .ref 542), (1, .int a)], [.ref 542, .int (Int32.ofInt 2), .int ((y25 * y29) + y35)], h, n, 0, 0)) (by with_unfolding_all rfl) ?_
      refine mc_getr hmi H (k := 542) (c := 543) (pc' := 68) rfl rfl rfl rfl rfl ?_
      refine mc_cx hmi 3 (F' := (72, [(3, .int (y25 * y29)), (2, .int y21), (0, .ref 542), (1, .int a)], [.int (y21 - (Int8.ofInt 15).toInt32), .ref 543, .int (Int32.ofInt 2), .int ((y25 * y29) + y35)], h, n, 0, 0)) (by with_unfolding_all rfl) ?_
      have e39 : (y21 - (Int8.ofInt 15).toInt32).toInt = ab_ri h 561 ((j : Int)) - 15 := mc_sub e22 (by decide) (by omega) (by omega)
      refine mc_iald hmi H (k := 543) (i := (ab_ri h 561 ((j : Int)) - 15)) (pc' := 73) rfl rfl rfl e39 (by omega) (by omega) rfl (fun y40 e41 r42 r43 => ?_)
      rw [e41] at r42 r43
      refine mc_cx hmi 2 (F' := (75, [(3, .int (y25 * y29)), (2, .int y21), (0, .ref 542), (1, .int a)], [.int (((y25 * y29) + y35) - ((Int32.ofInt 2) * y40))], h, n, 0, 0)) (by with_unfolding_all rfl) ?_
      exact mc_ret hmi rfl rfl rfl ⟨rfl, rfl, _, rfl, trivial⟩
    · refine mc_cx hmi 2 (F' := (37, [(3, .int (y25 * y29)), (2, .int y21), (0, .ref 542), (1, .int a)], [.ref 542, .int (y25 * y29)], h, n, 0, 0)) (by with_unfolding_all rfl) ?_
      refine mc_getr hmi H (k := 542) (c := 543) (pc' := 40) rfl rfl rfl rfl rfl ?_
      refine mc_cx hmi 1 (F' := (41, [(3, .int (y25 * y29)), (2, .int y21), (0, .ref 542), (1, .int a)], [.int a, .ref 543, .int (y25 * y29)], h, n, 0, 0)) (by with_unfolding_all rfl) ?_
      refine mc_iald hmi H (k := 543) (i := (j : Int)) (pc' := 42) rfl rfl rfl ha (by omega) (by omega) rfl (fun y44 e45 r46 r47 => ?_)
      rw [e45] at r46 r47
      refine mc_cx hmi 2 (F' := (44, [(3, .int (y25 * y29)), (2, .int y21), (0, .ref 542), (1, .int a)], [.ref 542, .int ((y25 * y29) + y44)], h, n, 0, 0)) (by with_unfolding_all rfl) ?_
      refine mc_getr hmi H (k := 542) (c := 543) (pc' := 47) rfl rfl rfl rfl rfl ?_
      refine mc_cx hmi 3 (F' := (50, [(3, .int (y25 * y29)), (2, .int y21), (0, .ref 542), (1, .int a)], [.int (y21 - (Int32.ofInt 1)), .ref 543, .int ((y25 * y29) + y44)], h, n, 0, 0)) (by with_unfolding_all rfl) ?_
      have e48 : (y21 - (Int32.ofInt 1)).toInt = ab_ri h 561 ((j : Int)) - 1 := mc_sub e22 (by decide) (by omega) (by omega)
      refine mc_iald hmi H (k := 543) (i := (ab_ri h 561 ((j : Int)) - 1)) (pc' := 51) rfl rfl rfl e48 (by omega) (by omega) rfl (fun y49 e50 r51 r52 => ?_)
      rw [e50] at r51 r52
      refine mc_cx hmi 2 (F' := (75, [(3, .int (y25 * y29)), (2, .int y21), (0, .ref 542), (1, .int a)], [.int (((y25 * y29) + y44) - y49)], h, n, 0, 0)) (by with_unfolding_all rfl) ?_
      exact mc_ret hmi rfl rfl rfl ⟨rfl, rfl, _, rfl, trivial⟩
  · refine mc_cx hmi 2 (F' := (75, [(3, .int (y25 * y29)), (2, .int y21), (0, .ref 542), (1, .int a)], [.int (y25 * y29)], h, n, 0, 0)) (by with_unfolding_all rfl) ?_
    exact mc_ret hmi rfl rfl rfl ⟨rfl, rfl, _, rfl, trivial⟩
set_option maxRecDepth 100000 in
theorem mc_mayCome {l : Launch} {G : ax_T} {d : Nat} {h : ax_H} {n : Nat} (hd : 1 ≤ d) (H : mc_HW h n) (a f s : Int32) {j : Nat} (hj : j ≤ 13) (ha : a.toInt = (j : Int)) : mc_M l G d mt_X11_mayCome [.ref 542, .int a, .int f, .int s] h n (mc_P h n fun y => y.toInt = 0 ∨ y.toInt = 1) := by
  obtain ⟨d, rfl⟩ : ∃ e, d = e + 1 := ⟨d - 1, by omega⟩
  have hmi : mt_X11_mayCome ∈ mt_prog := List.mem_of_getElem? mi_X11_mayCome
  refine mc_to hmi rfl ?_
  show mc_R _ _ _ _ _ (0, [(0, .ref 542), (1, .int a), (2, .int f), (3, .int s)], [], h, n, 0, 0)
  have no : mc_R l G mt_X11_mayCome d (mc_P h n fun y => y.toInt = 0 ∨ y.toInt = 1) (38, [(0, .ref 542), (1, .int a), (2, .int f), (3, .int s)], [], h, n, 0, 0) := by
    refine mc_cx hmi 1 (F' := (39, [(0, .ref 542), (1, .int a), (2, .int f), (3, .int s)], [.int (Int32.ofInt 0)], h, n, 0, 0)) (by with_unfolding_all rfl) ?_
    exact mc_ret hmi rfl rfl rfl ⟨rfl, rfl, _, rfl, by decide⟩
  have yes : mc_R l G mt_X11_mayCome d (mc_P h n fun y => y.toInt = 0 ∨ y.toInt = 1) (40, [(0, .ref 542), (1, .int a), (2, .int f), (3, .int s)], [], h, n, 0, 0) := by
    refine mc_cx hmi 1 (F' := (41, [(0, .ref 542), (1, .int a), (2, .int f), (3, .int s)], [.ref 542], h, n, 0, 0)) (by with_unfolding_all rfl) ?_
    refine mc_getr hmi H (k := 542) (c := 567) (pc' := 44) rfl rfl rfl rfl rfl ?_
    refine mc_cx hmi 1 (F' := (45, [(0, .ref 542), (1, .int a), (2, .int f), (3, .int s)], [.int a, .ref 567], h, n, 0, 0)) (by with_unfolding_all rfl) ?_
    refine mc_iald hmi H (k := 567) (i := (j : Int)) (pc' := 46) rfl rfl rfl ha (by omega) (by omega) rfl (fun y53 e54 r55 r56 => ?_)
    rw [e54] at r55 r56
    refine mc_cz hmi (c := .ne) (tg := 61) (pc' := 49) rfl rfl rfl e54 (fun (q57 : ab_ri h 567 ((j : Int)) ≠ 0) => ?_) (fun (q57 : ab_ri h 567 ((j : Int)) = 0) => ?_)
    · refine mc_cx hmi 2 (F' := (63, [(0, .ref 542), (1, .int a), (2, .int f), (3, .int s)], [.ref 542, .int f], h, n, 0, 0)) (by with_unfolding_all rfl) ?_
      refine mc_getr hmi H (k := 542) (c := 567) (pc' := 66) rfl rfl rfl rfl rfl ?_
      refine mc_cx hmi 1 (F' := (67, [(0, .ref 542), (1, .int a), (2, .int f), (3, .int s)], [.int a, .ref 567, .int f], h, n, 0, 0)) (by with_unfolding_all rfl) ?_
      refine mc_iald hmi H (k := 567) (i := (j : Int)) (pc' := 68) rfl rfl rfl ha (by omega) (by omega) rfl (fun y59 e60 r61 r62 => ?_)
      rw [e60] at r61 r62
      refine mc_irem hmi (pc' := 69) rfl (show y59.toInt ≠ 0 by rw [e60]; omega) rfl ?_
      refine mc_cz hmi (c := .ne) (tg := 76) (pc' := 72) rfl rfl rfl rfl (fun (q63 : (f - f / y59 * y59).toInt ≠ 0) => ?_) (fun (q63 : (f - f / y59 * y59).toInt = 0) => ?_)
      · refine mc_cx hmi 1 (F' := (77, [(0, .ref 542), (1, .int a), (2, .int f), (3, .int s)], [.int (Int32.ofInt 0)], h, n, 0, 0)) (by with_unfolding_all rfl) ?_
        exact mc_ret hmi rfl rfl rfl ⟨rfl, rfl, _, rfl, by decide⟩
      · refine mc_cx hmi 2 (F' := (77, [(0, .ref 542), (1, .int a), (2, .int f), (3, .int s)], [.int (Int32.ofInt 1)], h, n, 0, 0)) (by with_unfolding_all rfl) ?_
        exact mc_ret hmi rfl rfl rfl ⟨rfl, rfl, _, rfl, by decide⟩
    · refine mc_cx hmi 1 (F' := (50, [(0, .ref 542), (1, .int a), (2, .int f), (3, .int s)], [.int f], h, n, 0, 0)) (by with_unfolding_all rfl) ?_
      refine mc_cz hmi (c := .ne) (tg := 57) (pc' := 53) rfl rfl rfl rfl (fun (q58 : f.toInt ≠ 0) => ?_) (fun (q58 : f.toInt = 0) => ?_)
      · refine mc_cx hmi 2 (F' := (77, [(0, .ref 542), (1, .int a), (2, .int f), (3, .int s)], [.int (Int32.ofInt 0)], h, n, 0, 0)) (by with_unfolding_all rfl) ?_
        exact mc_ret hmi rfl rfl rfl ⟨rfl, rfl, _, rfl, by decide⟩
      · refine mc_cx hmi 2 (F' := (77, [(0, .ref 542), (1, .int a), (2, .int f), (3, .int s)], [.int (Int32.ofInt 1)], h, n, 0, 0)) (by with_unfolding_all rfl) ?_
        exact mc_ret hmi rfl rfl rfl ⟨rfl, rfl, _, rfl, by decide⟩
  refine mc_cx hmi 2 (F' := (2, [(0, .ref 542), (1, .int a), (2, .int f), (3, .int s)], [.ref 542, .int f], h, n, 0, 0)) (by with_unfolding_all rfl) ?_
  refine mc_getr hmi H (k := 542) (c := 566) (pc' := 5) rfl rfl rfl rfl rfl ?_
  refine mc_cx hmi 1 (F' := (6, [(0, .ref 542), (1, .int a), (2, .int f), (3, .int s)], [.int a, .ref 566, .int f], h, n, 0, 0)) (by with_unfolding_all rfl) ?_
  refine mc_iald hmi H (k := 566) (i := (j : Int)) (pc' := 7) rfl rfl rfl ha (by omega) (by omega) rfl (fun y64 e65 r66 r67 => ?_)
  rw [e65] at r66 r67
  refine mc_ci hmi (c := .lt) (tg := 38) (pc' := 10) rfl rfl rfl rfl e65 (fun (q68 : f.toInt < ab_ri h 566 ((j : Int))) => ?_) (fun (q68 : ab_ri h 566 ((j : Int)) ≤ f.toInt) => ?_)
  · exact no
  · refine mc_cx hmi 2 (F' := (12, [(0, .ref 542), (1, .int a), (2, .int f), (3, .int s)], [.ref 542, .int f], h, n, 0, 0)) (by with_unfolding_all rfl) ?_
    refine mc_getr hmi H (k := 542) (c := 565) (pc' := 15) rfl rfl rfl rfl rfl ?_
    refine mc_cx hmi 1 (F' := (16, [(0, .ref 542), (1, .int a), (2, .int f), (3, .int s)], [.int a, .ref 565, .int f], h, n, 0, 0)) (by with_unfolding_all rfl) ?_
    refine mc_iald hmi H (k := 565) (i := (j : Int)) (pc' := 17) rfl rfl rfl ha (by omega) (by omega) rfl (fun y69 e70 r71 r72 => ?_)
    rw [e70] at r71 r72
    refine mc_ci hmi (c := .gt) (tg := 38) (pc' := 20) rfl rfl rfl rfl e70 (fun (q73 : ab_ri h 565 ((j : Int)) < f.toInt) => ?_) (fun (q73 : f.toInt ≤ ab_ri h 565 ((j : Int))) => ?_)
    · exact no
    · refine mc_cx hmi 1 (F' := (21, [(0, .ref 542), (1, .int a), (2, .int f), (3, .int s)], [.int a], h, n, 0, 0)) (by with_unfolding_all rfl) ?_
      refine mc_cz hmi (c := .le) (tg := 40) (pc' := 24) rfl rfl rfl ha (fun (q74 : (j : Int) ≤ 0) => ?_) (fun (q74 : 0 < (j : Int)) => ?_)
      · exact yes
      · refine mc_cx hmi 3 (F' := (27, [(0, .ref 542), (1, .int a), (2, .int f), (3, .int s)], [.ref 542, .int s, .int f], h, n, 0, 0)) (by with_unfolding_all rfl) ?_
        refine mc_getr hmi H (k := 542) (c := 543) (pc' := 30) rfl rfl rfl rfl rfl ?_
        refine mc_cx hmi 3 (F' := (33, [(0, .ref 542), (1, .int a), (2, .int f), (3, .int s)], [.int (a - (Int32.ofInt 1)), .ref 543, .int s, .int f], h, n, 0, 0)) (by with_unfolding_all rfl) ?_
        have e75 : (a - (Int32.ofInt 1)).toInt = (j : Int) - 1 := mc_sub ha (by decide) (by omega) (by omega)
        refine mc_iald hmi H (k := 543) (i := ((j : Int) - 1)) (pc' := 34) rfl rfl rfl e75 (by omega) (by omega) rfl (fun y76 e77 r78 r79 => ?_)
        rw [e77] at r78 r79
        refine mc_cx hmi 1 (F' := (35, [(0, .ref 542), (1, .int a), (2, .int f), (3, .int s)], [.int (s * y76), .int f], h, n, 0, 0)) (by with_unfolding_all rfl) ?_
        refine mc_ci hmi (c := .le) (tg := 40) (pc' := 38) rfl rfl rfl rfl rfl (fun (q80 : f.toInt ≤ (s * y76).toInt) => ?_) (fun (q80 : (s * y76).toInt < f.toInt) => ?_)
        · exact yes
        · exact no
def NWf (h h' : ax_H) (j : Nat) : Prop := ∀ (k : Nat) (i : Int), (k = 560 → i ≠ (j : Int)) → (k = 561 → i ≠ (j : Int)) → ab_rd h' k i = ab_rd h k i
set_option maxRecDepth 100000 in
theorem nw_loop {l : Launch} {G : ax_T} {d : Nat} {h : ax_H} {n : Nat} (hd : 2 ≤ d) (k a : Int32) (hk0 : 0 ≤ k.toInt) (hk1 : k.toInt ≤ 5) {j : Nat} (hj : j ≤ 13) (ha : a.toInt = (j : Int)) : ∀ (c : Nat) (h' : ax_H) (f : Int32), mc_HW h' n → NWf h h' j → ((f.toInt = 0 ∧ lvl h' j ≤ lvl h j) ∨ (f.toInt = 1 ∧ 0 ≤ ab_ri h' 560 (j : Int) ∧ lvl h' j < lvl h j)) → (lvl h' j).toNat * 2 + 1 ≤ c + f.toInt.toNat → mc_R l G mt_X11_nextWay d (fun r' h' n' => n' = n ∧ mc_HW h' n ∧ NWf h h' j ∧ ∃ y : Int32, r' = some (.int y) ∧ (y.toInt = 0 ∨ y.toInt = 1 ∧ 0 ≤ ab_ri h' 560 (j : Int) ∧ lvl h' j < lvl h j)) (2, [(0, .ref 542), (1, .int k), (2, .int a), (3, .int f)], [], h', n, 0, 0) := by
  have hmi : mt_X11_nextWay ∈ mt_prog := List.mem_of_getElem? mi_X11_nextWay
  intro c
  induction c with
  | zero =>
    intro h' f H' hfr hinv hc
    have q : f.toInt = 1 ∧ 0 ≤ ab_ri h' 560 (j : Int) ∧ lvl h' j < lvl h j := by
      rcases hinv with q | q
      · omega
      · exact q
    refine mc_cx hmi 1 (F' := (3, [(0, .ref 542), (1, .int k), (2, .int a), (3, .int f)], [.int f], h', n, 0, 0)) (by with_unfolding_all rfl) ?_
    refine mc_cz hmi (c := .ne) (tg := 124) (pc' := 6) rfl rfl rfl rfl (fun (q81 : f.toInt ≠ 0) => ?_) (fun (q81 : f.toInt = 0) => ?_)
    · refine mc_cx hmi 1 (F' := (125, [(0, .ref 542), (1, .int k), (2, .int a), (3, .int f)], [.int f], h', n, 0, 0)) (by with_unfolding_all rfl) ?_
      exact mc_ret hmi rfl rfl (mc_rb (Or.inr q.1)) ⟨rfl, H', hfr, _, rfl, Or.inr q⟩
    · exact absurd q81 (by omega)
  | succ c ih =>
    intro h' f H' hfr hinv hc
    refine mc_cx hmi 1 (F' := (3, [(0, .ref 542), (1, .int k), (2, .int a), (3, .int f)], [.int f], h', n, 0, 0)) (by with_unfolding_all rfl) ?_
    refine mc_cz hmi (c := .ne) (tg := 124) (pc' := 6) rfl rfl rfl rfl (fun (q82 : f.toInt ≠ 0) => ?_) (fun (q82 : f.toInt = 0) => ?_)
    · have q : f.toInt = 1 ∧ 0 ≤ ab_ri h' 560 (j : Int) ∧ lvl h' j < lvl h j := by
        rcases hinv with q | q
        · exact absurd q.1 q82
        · exact q
      refine mc_cx hmi 1 (F' := (125, [(0, .ref 542), (1, .int k), (2, .int a), (3, .int f)], [.int f], h', n, 0, 0)) (by with_unfolding_all rfl) ?_
      exact mc_ret hmi rfl rfl (mc_rb (Or.inr q.1)) ⟨rfl, H', hfr, _, rfl, Or.inr q⟩
    · have hl : lvl h' j ≤ lvl h j := by rcases hinv with q | q <;> omega
      refine mc_cx hmi 1 (F' := (7, [(0, .ref 542), (1, .int k), (2, .int a), (3, .int f)], [.ref 542], h', n, 0, 0)) (by with_unfolding_all rfl) ?_
      refine mc_getr hmi H' (k := 542) (c := 560) (pc' := 10) rfl rfl rfl rfl rfl ?_
      refine mc_cx hmi 1 (F' := (11, [(0, .ref 542), (1, .int k), (2, .int a), (3, .int f)], [.int a, .ref 560], h', n, 0, 0)) (by with_unfolding_all rfl) ?_
      refine mc_iald hmi H' (k := 560) (i := (j : Int)) (pc' := 12) rfl rfl rfl ha (by omega) (by omega) rfl (fun y83 e84 r85 r86 => ?_)
      rw [e84] at r85 r86
      refine mc_cz hmi (c := .lt) (tg := 124) (pc' := 15) rfl rfl rfl e84 (fun (q87 : ab_ri h' 560 ((j : Int)) < 0) => ?_) (fun (q87 : 0 ≤ ab_ri h' 560 ((j : Int))) => ?_)
      · refine mc_cx hmi 1 (F' := (125, [(0, .ref 542), (1, .int k), (2, .int a), (3, .int f)], [.int f], h', n, 0, 0)) (by with_unfolding_all rfl) ?_
        exact mc_ret hmi rfl rfl (mc_rb (Or.inl q82)) ⟨rfl, H', hfr, _, rfl, Or.inl q82⟩
      · have hp0 : 0 ≤ ab_ri h' 560 (j : Int) := q87
        have k97 : ∀ h2 : ax_H, mc_HW h2 n → NWf h h2 j → lvl h2 j < lvl h' j → 0 ≤ lvl h2 j → mc_R l G mt_X11_nextWay d (fun r' h' n' => n' = n ∧ mc_HW h' n ∧ NWf h h' j ∧ ∃ y : Int32, r' = some (.int y) ∧ (y.toInt = 0 ∨ y.toInt = 1 ∧ 0 ≤ ab_ri h' 560 (j : Int) ∧ lvl h' j < lvl h j)) (97, [(0, .ref 542), (1, .int k), (2, .int a), (3, .int f)], [], h2, n, 0, 0) := by
          intro h2 H2 f2 l2 l0
          have k120 : ∀ u : Int32, (u.toInt = 0 ∨ u.toInt = 1 ∧ 0 ≤ ab_ri h2 560 (j : Int)) → mc_R l G mt_X11_nextWay d (fun r' h' n' => n' = n ∧ mc_HW h' n ∧ NWf h h' j ∧ ∃ y : Int32, r' = some (.int y) ∧ (y.toInt = 0 ∨ y.toInt = 1 ∧ 0 ≤ ab_ri h' 560 (j : Int) ∧ lvl h' j < lvl h j)) (120, [(0, .ref 542), (1, .int k), (2, .int a), (3, .int f)], [.int u], h2, n, 0, 0) := by
            intro u hu
            refine mc_cx hmi 2 (F' := (2, [(3, .int u), (0, .ref 542), (1, .int k), (2, .int a)], [], h2, n, 0, 0)) (by with_unfolding_all rfl) ?_
            refine mc_lvs (lv' := [(0, .ref 542), (1, .int k), (2, .int a), (3, .int u)]) (by simp) ?_
            refine ih h2 u H2 f2 (hu.elim (fun q => Or.inl ⟨q, by omega⟩) (fun q => Or.inr ⟨q.1, q.2, by omega⟩)) (by omega)
          refine mc_cx hmi 1 (F' := (98, [(0, .ref 542), (1, .int k), (2, .int a), (3, .int f)], [.ref 542], h2, n, 0, 0)) (by with_unfolding_all rfl) ?_
          refine mc_getr hmi H2 (k := 542) (c := 560) (pc' := 101) rfl rfl rfl rfl rfl ?_
          refine mc_cx hmi 1 (F' := (102, [(0, .ref 542), (1, .int k), (2, .int a), (3, .int f)], [.int a, .ref 560], h2, n, 0, 0)) (by with_unfolding_all rfl) ?_
          refine mc_iald hmi H2 (k := 560) (i := (j : Int)) (pc' := 103) rfl rfl rfl ha (by omega) (by omega) rfl (fun y88 e89 r90 r91 => ?_)
          rw [e89] at r90 r91
          refine mc_cz hmi (c := .lt) (tg := 119) (pc' := 106) rfl rfl rfl e89 (fun (q92 : ab_ri h2 560 ((j : Int)) < 0) => ?_) (fun (q92 : 0 ≤ ab_ri h2 560 ((j : Int))) => ?_)
          · refine mc_cx hmi 1 (F' := (120, [(0, .ref 542), (1, .int k), (2, .int a), (3, .int f)], [.int (Int32.ofInt 0)], h2, n, 0, 0)) (by with_unfolding_all rfl) ?_
            exact k120 _ (Or.inl (by decide))
          · refine mc_cx hmi 3 (F' := (109, [(0, .ref 542), (1, .int k), (2, .int a), (3, .int f)], [.int a, .int k, .ref 542], h2, n, 0, 0)) (by with_unfolding_all rfl) ?_
            refine mc_callP hmi (en := (109, .invokevirtual 170, 3, (3, 178, 11, 0), [1378, 87, 1376])) rfl (q := (mt_X11_isAllowed, [.ref 542, .int k, .int a], [])) (mc_inv H2 (as := [.int k, .int a]) (rest := []) rfl (by with_unfolding_all rfl) rfl rfl rfl) ⟨rfl, rfl⟩ (pc' := 112) rfl (mc_isAllowed hd H2 k a hk0 hk1 hj ha) (fun y93 e94 => ?_)
            refine mc_cz hmi (c := .eq) (tg := 119) (pc' := 115) rfl rfl rfl rfl (fun (q95 : y93.toInt = 0) => ?_) (fun (q95 : y93.toInt ≠ 0) => ?_)
            · refine mc_cx hmi 1 (F' := (120, [(0, .ref 542), (1, .int k), (2, .int a), (3, .int f)], [.int (Int32.ofInt 0)], h2, n, 0, 0)) (by with_unfolding_all rfl) ?_
              exact k120 _ (Or.inl (by decide))
            · refine mc_cx hmi 2 (F' := (120, [(0, .ref 542), (1, .int k), (2, .int a), (3, .int f)], [.int (Int32.ofInt 1)], h2, n, 0, 0)) (by with_unfolding_all rfl) ?_
              exact k120 _ (Or.inr ⟨by decide, q92⟩)
        refine mc_cx hmi 1 (F' := (16, [(0, .ref 542), (1, .int k), (2, .int a), (3, .int f)], [.ref 542], h', n, 0, 0)) (by with_unfolding_all rfl) ?_
        refine mc_getr hmi H' (k := 542) (c := 561) (pc' := 19) rfl rfl rfl rfl rfl ?_
        refine mc_cx hmi 1 (F' := (20, [(0, .ref 542), (1, .int k), (2, .int a), (3, .int f)], [.int a, .ref 561], h', n, 0, 0)) (by with_unfolding_all rfl) ?_
        refine mc_iald hmi H' (k := 561) (i := (j : Int)) (pc' := 21) rfl rfl rfl ha (by omega) (by omega) rfl (fun y96 e97 r98 r99 => ?_)
        rw [e97] at r98 r99
        refine mc_cz hmi (c := .ne) (tg := 35) (pc' := 24) rfl rfl rfl e97 (fun (q100 : ab_ri h' 561 ((j : Int)) ≠ 0) => ?_) (fun (q100 : ab_ri h' 561 ((j : Int)) = 0) => ?_)
        · refine mc_cx hmi 1 (F' := (36, [(0, .ref 542), (1, .int k), (2, .int a), (3, .int f)], [.ref 542], h', n, 0, 0)) (by with_unfolding_all rfl) ?_
          refine mc_getr hmi H' (k := 542) (c := 561) (pc' := 39) rfl rfl rfl rfl rfl ?_
          refine mc_cx hmi 1 (F' := (40, [(0, .ref 542), (1, .int k), (2, .int a), (3, .int f)], [.int a, .ref 561], h', n, 0, 0)) (by with_unfolding_all rfl) ?_
          refine mc_iald hmi H' (k := 561) (i := (j : Int)) (pc' := 41) rfl rfl rfl ha (by omega) (by omega) rfl (fun y104 e105 r106 r107 => ?_)
          rw [e105] at r106 r107
          refine mc_cx hmi 1 (F' := (42, [(0, .ref 542), (1, .int k), (2, .int a), (3, .int f)], [.int (Int32.ofInt 1), .int y104], h', n, 0, 0)) (by with_unfolding_all rfl) ?_
          refine mc_ci hmi (c := .ne) (tg := 56) (pc' := 45) rfl rfl rfl e105 (by decide) (fun (q108 : ab_ri h' 561 ((j : Int)) ≠ 1) => ?_) (fun (q108 : ab_ri h' 561 ((j : Int)) = 1) => ?_)
          · refine mc_cx hmi 1 (F' := (57, [(0, .ref 542), (1, .int k), (2, .int a), (3, .int f)], [.ref 542], h', n, 0, 0)) (by with_unfolding_all rfl) ?_
            refine mc_getr hmi H' (k := 542) (c := 561) (pc' := 60) rfl rfl rfl rfl rfl ?_
            refine mc_cx hmi 1 (F' := (61, [(0, .ref 542), (1, .int k), (2, .int a), (3, .int f)], [.int a, .ref 561], h', n, 0, 0)) (by with_unfolding_all rfl) ?_
            refine mc_iald hmi H' (k := 561) (i := (j : Int)) (pc' := 62) rfl rfl rfl ha (by omega) (by omega) rfl (fun y112 e113 r114 r115 => ?_)
            rw [e113] at r114 r115
            refine mc_cx hmi 1 (F' := (64, [(0, .ref 542), (1, .int k), (2, .int a), (3, .int f)], [.int (Int8.ofInt 15).toInt32, .int y112], h', n, 0, 0)) (by with_unfolding_all rfl) ?_
            refine mc_ci hmi (c := .ne) (tg := 87) (pc' := 67) rfl rfl rfl e113 (by decide) (fun (q116 : ab_ri h' 561 ((j : Int)) ≠ 15) => ?_) (fun (q116 : ab_ri h' 561 ((j : Int)) = 15) => ?_)
            · refine mc_cx hmi 1 (F' := (88, [(0, .ref 542), (1, .int k), (2, .int a), (3, .int f)], [.ref 542], h', n, 0, 0)) (by with_unfolding_all rfl) ?_
              refine mc_getr hmi H' (k := 542) (c := 561) (pc' := 91) rfl rfl rfl rfl rfl ?_
              refine mc_cx hmi 2 (F' := (93, [(0, .ref 542), (1, .int k), (2, .int a), (3, .int f)], [.int a, .ref 561, .int a, .ref 561], h', n, 0, 0)) (by with_unfolding_all rfl) ?_
              refine mc_iald hmi H' (k := 561) (i := (j : Int)) (pc' := 94) rfl rfl rfl ha (by omega) (by omega) rfl (fun y128 e129 r130 r131 => ?_)
              rw [e129] at r130 r131
              refine mc_cx hmi 2 (F' := (96, [(0, .ref 542), (1, .int k), (2, .int a), (3, .int f)], [.int (y128 - (Int32.ofInt 1)), .int a, .ref 561], h', n, 0, 0)) (by with_unfolding_all rfl) ?_
              have e132 : (y128 - (Int32.ofInt 1)).toInt = ab_ri h' 561 ((j : Int)) - 1 := mc_sub e129 (by decide) (by omega) (by omega)
              refine mc_iast hmi H' (k := 561) (i := (j : Int)) (pc' := 97) rfl rfl rfl ha (by omega) (by omega) (by rw [e132]; omega) (by rw [e132]; omega) rfl (fun h133 H134 w135 => ?_)
              refine mc_lvs (lv' := [(0, .ref 542), (1, .int k), (2, .int a), (3, .int f)]) (by simp) ?_
              have gP : ab_ri h133 560 (j : Int) = ab_ri h' 560 (j : Int) := by rw [mc_ri w135, if_neg (fun q => absurd q.1 (by decide))]
              have gT : ab_ri h133 561 (j : Int) = ab_ri h' 561 (j : Int) - 1 := by rw [mc_ri w135, if_pos ⟨rfl, rfl⟩]; omega
              refine k97 h133 H134 (fun k' i' p1 p2 => ?_) ?_ ?_
              · rw [w135, if_neg (fun q => p2 q.1 q.2)]; exact hfr k' i' p1 p2
              · unfold lvl rk; rw [gP, gT]; repeat' split
                all_goals omega
              · unfold lvl rk; rw [gP, gT]; repeat' split
                all_goals omega
            · refine mc_cx hmi 1 (F' := (68, [(0, .ref 542), (1, .int k), (2, .int a), (3, .int f)], [.ref 542], h', n, 0, 0)) (by with_unfolding_all rfl) ?_
              refine mc_getr hmi H' (k := 542) (c := 561) (pc' := 71) rfl rfl rfl rfl rfl ?_
              refine mc_cx hmi 2 (F' := (73, [(0, .ref 542), (1, .int k), (2, .int a), (3, .int f)], [.int (Int32.ofInt 0), .int a, .ref 561], h', n, 0, 0)) (by with_unfolding_all rfl) ?_
              refine mc_iast hmi H' (k := 561) (i := (j : Int)) (pc' := 74) rfl rfl rfl ha (by omega) (by omega) (by rw [show ((Int32.ofInt 0)).toInt = 0 from by decide]; omega) (by rw [show ((Int32.ofInt 0)).toInt = 0 from by decide]; omega) rfl (fun h117 H118 w119 => ?_)
              refine mc_cx hmi 1 (F' := (75, [(0, .ref 542), (1, .int k), (2, .int a), (3, .int f)], [.ref 542], h117, n, 0, 0)) (by with_unfolding_all rfl) ?_
              refine mc_getr hmi H118 (k := 542) (c := 560) (pc' := 78) rfl rfl rfl rfl rfl ?_
              have c1 : ab_ri h117 560 (j : Int) = ab_ri h' 560 (j : Int) := by rw [mc_ri w119, if_neg (fun q => absurd q.1 (by decide))]
              refine mc_cx hmi 2 (F' := (80, [(0, .ref 542), (1, .int k), (2, .int a), (3, .int f)], [.int a, .ref 560, .int a, .ref 560], h117, n, 0, 0)) (by with_unfolding_all rfl) ?_
              refine mc_iald hmi H118 (k := 560) (i := (j : Int)) (pc' := 81) rfl rfl rfl ha (by omega) (by omega) rfl (fun y120 e121 r122 r123 => ?_)
              rw [e121] at r122 r123
              refine mc_cx hmi 2 (F' := (83, [(0, .ref 542), (1, .int k), (2, .int a), (3, .int f)], [.int (y120 - (Int32.ofInt 1)), .int a, .ref 560], h117, n, 0, 0)) (by with_unfolding_all rfl) ?_
              have e124 : (y120 - (Int32.ofInt 1)).toInt = ab_ri h117 560 ((j : Int)) - 1 := mc_sub e121 (by decide) (by omega) (by omega)
              refine mc_iast hmi H118 (k := 560) (i := (j : Int)) (pc' := 84) rfl rfl rfl ha (by omega) (by omega) (by rw [e124]; omega) (by rw [e124]; omega) rfl (fun h125 H126 w127 => ?_)
              refine mc_cx hmi 1 (F' := (97, [(0, .ref 542), (1, .int k), (2, .int a), (3, .int f)], [], h125, n, 0, 0)) (by with_unfolding_all rfl) ?_
              refine mc_lvs (lv' := [(0, .ref 542), (1, .int k), (2, .int a), (3, .int f)]) (by simp) ?_
              have gP : ab_ri h125 560 (j : Int) = ab_ri h' 560 (j : Int) - 1 := by rw [mc_ri w127, if_pos ⟨rfl, rfl⟩]; omega
              have gT : ab_ri h125 561 (j : Int) = 0 := by rw [mc_ri w127, if_neg (fun q => absurd q.1 (by decide)), mc_ri w119, if_pos ⟨rfl, rfl⟩]; decide
              refine k97 h125 H126 (fun k' i' p1 p2 => ?_) ?_ ?_
              · rw [w127, if_neg (fun q => p1 q.1 q.2), w119, if_neg (fun q => p2 q.1 q.2)]; exact hfr k' i' p1 p2
              · unfold lvl rk; rw [gP, gT]; repeat' split
                all_goals omega
              · unfold lvl rk; rw [gP, gT]; repeat' split
                all_goals omega
          · refine mc_cx hmi 1 (F' := (46, [(0, .ref 542), (1, .int k), (2, .int a), (3, .int f)], [.ref 542], h', n, 0, 0)) (by with_unfolding_all rfl) ?_
            refine mc_getr hmi H' (k := 542) (c := 561) (pc' := 49) rfl rfl rfl rfl rfl ?_
            refine mc_cx hmi 2 (F' := (52, [(0, .ref 542), (1, .int k), (2, .int a), (3, .int f)], [.int (Int8.ofInt 28).toInt32, .int a, .ref 561], h', n, 0, 0)) (by with_unfolding_all rfl) ?_
            refine mc_iast hmi H' (k := 561) (i := (j : Int)) (pc' := 53) rfl rfl rfl ha (by omega) (by omega) (by rw [show ((Int8.ofInt 28).toInt32).toInt = 28 from by decide]; omega) (by rw [show ((Int8.ofInt 28).toInt32).toInt = 28 from by decide]; omega) rfl (fun h109 H110 w111 => ?_)
            refine mc_cx hmi 1 (F' := (97, [(0, .ref 542), (1, .int k), (2, .int a), (3, .int f)], [], h109, n, 0, 0)) (by with_unfolding_all rfl) ?_
            refine mc_lvs (lv' := [(0, .ref 542), (1, .int k), (2, .int a), (3, .int f)]) (by simp) ?_
            have gP : ab_ri h109 560 (j : Int) = ab_ri h' 560 (j : Int) := by rw [mc_ri w111, if_neg (fun q => absurd q.1 (by decide))]
            have gT : ab_ri h109 561 (j : Int) = 28 := by rw [mc_ri w111, if_pos ⟨rfl, rfl⟩]; decide
            refine k97 h109 H110 (fun k' i' p1 p2 => ?_) ?_ ?_
            · rw [w111, if_neg (fun q => p2 q.1 q.2)]; exact hfr k' i' p1 p2
            · unfold lvl rk; rw [gP, gT]; repeat' split
              all_goals omega
            · unfold lvl rk; rw [gP, gT]; repeat' split
              all_goals omega
        · refine mc_cx hmi 1 (F' := (25, [(0, .ref 542), (1, .int k), (2, .int a), (3, .int f)], [.ref 542], h', n, 0, 0)) (by with_unfolding_all rfl) ?_
          refine mc_getr hmi H' (k := 542) (c := 561) (pc' := 28) rfl rfl rfl rfl rfl ?_
          refine mc_cx hmi 2 (F' := (31, [(0, .ref 542), (1, .int k), (2, .int a), (3, .int f)], [.int (Int8.ofInt 14).toInt32, .int a, .ref 561], h', n, 0, 0)) (by with_unfolding_all rfl) ?_
          refine mc_iast hmi H' (k := 561) (i := (j : Int)) (pc' := 32) rfl rfl rfl ha (by omega) (by omega) (by rw [show ((Int8.ofInt 14).toInt32).toInt = 14 from by decide]; omega) (by rw [show ((Int8.ofInt 14).toInt32).toInt = 14 from by decide]; omega) rfl (fun h101 H102 w103 => ?_)
          refine mc_cx hmi 1 (F' := (97, [(0, .ref 542), (1, .int k), (2, .int a), (3, .int f)], [], h101, n, 0, 0)) (by with_unfolding_all rfl) ?_
          refine mc_lvs (lv' := [(0, .ref 542), (1, .int k), (2, .int a), (3, .int f)]) (by simp) ?_
          have gP : ab_ri h101 560 (j : Int) = ab_ri h' 560 (j : Int) := by rw [mc_ri w103, if_neg (fun q => absurd q.1 (by decide))]
          have gT : ab_ri h101 561 (j : Int) = 14 := by rw [mc_ri w103, if_pos ⟨rfl, rfl⟩]; decide
          refine k97 h101 H102 (fun k' i' p1 p2 => ?_) ?_ ?_
          · rw [w103, if_neg (fun q => p2 q.1 q.2)]; exact hfr k' i' p1 p2
          · unfold lvl rk; rw [gP, gT]; repeat' split
            all_goals omega
          · unfold lvl rk; rw [gP, gT]; repeat' split
            all_goals omega
set_option maxRecDepth 100000 in
theorem mc_nextWay {l : Launch} {G : ax_T} {d : Nat} {h : ax_H} {n : Nat} (hd : 3 ≤ d) (H : mc_HW h n) (k a : Int32) (hk0 : 0 ≤ k.toInt) (hk1 : k.toInt ≤ 5) {j : Nat} (hj : j ≤ 13) (ha : a.toInt = (j : Int)) : mc_M l G d mt_X11_nextWay [.ref 542, .int k, .int a] h n (fun r' h' n' => n' = n ∧ mc_HW h' n ∧ NWf h h' j ∧ ∃ y : Int32, r' = some (.int y) ∧ (y.toInt = 0 ∨ y.toInt = 1 ∧ 0 ≤ ab_ri h' 560 (j : Int) ∧ lvl h' j < lvl h j)) := by
  obtain ⟨d, rfl⟩ : ∃ e, d = e + 1 := ⟨d - 1, by omega⟩
  have hmi : mt_X11_nextWay ∈ mt_prog := List.mem_of_getElem? mi_X11_nextWay
  refine mc_to hmi rfl ?_
  show mc_R _ _ _ _ _ (0, [(0, .ref 542), (1, .int k), (2, .int a)], [], h, n, 0, 0)
  refine mc_cx hmi 2 (F' := (2, [(3, .int (Int32.ofInt 0)), (0, .ref 542), (1, .int k), (2, .int a)], [], h, n, 0, 0)) (by with_unfolding_all rfl) ?_
  refine mc_lvs (lv' := [(0, .ref 542), (1, .int k), (2, .int a), (3, .int (Int32.ofInt 0))]) (by simp) ?_
  exact nw_loop (by omega) k a hk0 hk1 hj ha _ h (Int32.ofInt 0) H (fun _ _ _ _ => rfl) (Or.inl ⟨by decide, Int.le_refl _⟩) (Nat.le_add_right _ _)
