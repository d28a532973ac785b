section
/-! ===== by hand: what seek calls, in the reference (ways printed by wip/hand/h_seek.py) ===== -/
def sg (t : Int) : Int := if t = 0 then 0 else if t < 15 then 2 else 3
set_option maxRecDepth 100000 in
theorem sg_b (t : Int) : 0 ≤ sg t ∧ sg t ≤ 3 := by unfold sg; split <;> (try split) <;> omega
def rk (t : Int) : Int := if t = 0 then 28 else if t < 15 then 13 + t else t - 15
def lvl (h : ax_H) (j : Nat) : Int := (ab_ri h 560 (j : Int) + 1) * 29 + rk (ab_ri h 561 (j : Int))
def fS (h : ax_H) (j : Nat) : Int := ab_ri h 560 (j : Int) + sg (ab_ri h 561 (j : Int))
set_option maxRecDepth 100000 in
theorem mc_signsOf {l : Launch} {G : ax_T} {d : Nat} {h : ax_H} {n : Nat} (hd : 1 ≤ d) (t : Int32) : mc_M l G d mt_X11_signsOf [.int t] h n (mc_P h n fun y => y.toInt = sg t.toInt) := by
  obtain ⟨d, rfl⟩ : ∃ e, d = e + 1 := ⟨d - 1, by omega⟩
  have hmi : mt_X11_signsOf ∈ mt_prog := List.mem_of_getElem? mi_X11_signsOf
  refine mc_to hmi rfl ?_
  show mc_R _ _ _ _ _ (0, [(0, .int t)], [], h, n, 0, 0)
  refine mc_cx hmi 1 (F' := (1, [(0, .int t)], [.int t], h, n, 0, 0)) (by with_unfolding_all rfl) ?_
  refine mc_cz hmi (c := .ne) (tg := 8) (pc' := 4) rfl rfl rfl rfl (fun (q1 : t.toInt ≠ 0) => ?_) (fun (q1 : t.toInt = 0) => ?_)
  · refine mc_cx hmi 2 (F' := (11, [(0, .int t)], [.int (Int8.ofInt 15).toInt32, .int t], h, n, 0, 0)) (by with_unfolding_all rfl) ?_
    refine mc_ci hmi (c := .ge) (tg := 18) (pc' := 14) rfl rfl rfl rfl (by decide) (fun (q2 : 15 ≤ t.toInt) => ?_) (fun (q2 : t.toInt < 15) => ?_)
    · refine mc_cx hmi 1 (F' := (19, [(0, .int t)], [.int (Int32.ofInt 3)], h, n, 0, 0)) (by with_unfolding_all rfl) ?_
      exact mc_ret hmi rfl rfl rfl ⟨rfl, rfl, _, rfl, by show _ = sg t.toInt; unfold sg; rw [if_neg q1, if_neg (show ¬ t.toInt < 15 by omega)]; decide⟩
    · refine mc_cx hmi 2 (F' := (19, [(0, .int t)], [.int (Int32.ofInt 2)], h, n, 0, 0)) (by with_unfolding_all rfl) ?_
      exact mc_ret hmi rfl rfl rfl ⟨rfl, rfl, _, rfl, by show _ = sg t.toInt; unfold sg; rw [if_neg q1, if_pos q2]; decide⟩
  · refine mc_cx hmi 2 (F' := (19, [(0, .int t)], [.int (Int32.ofInt 0)], h, n, 0, 0)) (by with_unfolding_all rfl) ?_
    exact mc_ret hmi rfl rfl rfl ⟨rfl, rfl, _, rfl, by show _ = sg t.toInt; unfold sg; rw [if_pos q1]; decide⟩
set_option maxRecDepth 100000 in
theorem mc_isAllowed {l : Launch} {G : ax_T} {d : Nat} {h : ax_H} {n : Nat} (hd : 2 ≤ d) (H : mc_HW h n) (k a : Int32) (hk0 : 0 ≤ k.toInt) (hk1 : k.toInt ≤ 5) {j : Nat} (hj : j ≤ 13) (ha : a.toInt = (j : Int)) : mc_M l G d mt_X11_isAllowed [.ref 542, .int k, .int a] h n (mc_P h n fun y => y.toInt = 0 ∨ y.toInt = 1) := by
  obtain ⟨d, rfl⟩ : ∃ e, d = e + 1 := ⟨d - 1, by omega⟩
  have hmi : mt_X11_isAllowed ∈ mt_prog := List.mem_of_getElem? mi_X11_isAllowed
  refine mc_to hmi rfl ?_
  show mc_R _ _ _ _ _ (0, [(0, .ref 542), (1, .int k), (2, .int a)], [], h, n, 0, 0)
  refine mc_cx hmi 1 (F' := (1, [(0, .ref 542), (1, .int k), (2, .int a)], [.ref 542], h, n, 0, 0)) (by with_unfolding_all rfl) ?_
  refine mc_getr hmi H (k := 542) (c := 561) (pc' := 4) rfl rfl rfl rfl rfl ?_
  refine mc_cx hmi 1 (F' := (5, [(0, .ref 542), (1, .int k), (2, .int a)], [.int a, .ref 561], h, n, 0, 0)) (by with_unfolding_all rfl) ?_
  refine mc_iald hmi H (k := 561) (i := (j : Int)) (pc' := 6) rfl rfl rfl ha (by omega) (by omega) rfl (fun y3 e4 r5 r6 => ?_)
  rw [e4] at r5 r6
  refine mc_cx hmi 2 (F' := (8, [(3, .int y3), (0, .ref 542), (1, .int k), (2, .int a)], [.int y3], h, n, 0, 0)) (by with_unfolding_all rfl) ?_
  refine mc_cz hmi (c := .ne) (tg := 13) (pc' := 11) rfl rfl rfl e4 (fun (q7 : ab_ri h 561 ((j : Int)) ≠ 0) => ?_) (fun (q7 : ab_ri h 561 ((j : Int)) = 0) => ?_)
  · have key : ∀ u : Int32, 0 ≤ u.toInt → mc_R l G mt_X11_isAllowed d (mc_P h n fun y => y.toInt = 0 ∨ y.toInt = 1) (29, [(3, .int y3), (0, .ref 542), (1, .int k), (2, .int a)], [.int u], h, n, 0, 0) := by
      intro u hu
      refine mc_cx hmi 3 (F' := (33, [(4, .int u), (3, .int y3), (0, .ref 542), (1, .int k), (2, .int a)], [.ref 542, .int a], h, n, 0, 0)) (by with_unfolding_all rfl) ?_
      refine mc_getr hmi H (k := 542) (c := 562) (pc' := 36) rfl rfl rfl rfl rfl ?_
      refine mc_cx hmi 1 (F' := (37, [(4, .int u), (3, .int y3), (0, .ref 542), (1, .int k), (2, .int a)], [.int a, .ref 562, .int a], h, n, 0, 0)) (by with_unfolding_all rfl) ?_
      refine mc_iald hmi H (k := 562) (i := (j : Int)) (pc' := 38) rfl rfl rfl ha (by omega) (by omega) rfl (fun y8 e9 r10 r11 => ?_)
      rw [e9] at r10 r11
      refine mc_ci hmi (c := .ge) (tg := 73) (pc' := 41) rfl rfl rfl ha e9 (fun (q12 : ab_ri h 562 ((j : Int)) ≤ (j : Int)) => ?_) (fun (q12 : (j : Int) < ab_ri h 562 ((j : Int))) => ?_)
      · refine mc_cx hmi 1 (F' := (74, [(4, .int u), (3, .int y3), (0, .ref 542), (1, .int k), (2, .int a)], [.int (Int32.ofInt 0)], h, n, 0, 0)) (by with_unfolding_all rfl) ?_
        exact mc_ret hmi rfl rfl rfl ⟨rfl, rfl, _, rfl, by decide⟩
      · refine mc_cx hmi 2 (F' := (44, [(4, .int u), (3, .int y3), (0, .ref 542), (1, .int k), (2, .int a)], [.int a, .int u], h, n, 0, 0)) (by with_unfolding_all rfl) ?_
        refine mc_ci hmi (c := .ge) (tg := 73) (pc' := 47) rfl rfl rfl rfl ha (fun (q13 : (j : Int) ≤ u.toInt) => ?_) (fun (q13 : u.toInt < (j : Int)) => ?_)
        · refine mc_cx hmi 1 (F' := (74, [(4, .int u), (3, .int y3), (0, .ref 542), (1, .int k), (2, .int a)], [.int (Int32.ofInt 0)], h, n, 0, 0)) (by with_unfolding_all rfl) ?_
          exact mc_ret hmi rfl rfl rfl ⟨rfl, rfl, _, rfl, by decide⟩
        · refine mc_cx hmi 6 (F' := (55, [(4, .int u), (3, .int y3), (0, .ref 542), (1, .int k), (2, .int a)], [.int (Int8.ofInt 15).toInt32, .int y3, .int a, .int u, .int k, .ref 542], h, n, 0, 0)) (by with_unfolding_all rfl) ?_
          have k2 : ∀ v : Int32, mc_R l G mt_X11_isAllowed d (mc_P h n fun y => y.toInt = 0 ∨ y.toInt = 1) (63, [(4, .int u), (3, .int y3), (0, .ref 542), (1, .int k), (2, .int a)], [.int v, .int a, .int u, .int k, .ref 542], h, n, 0, 0) := by
            intro v
            refine mc_callP hmi (en := (63, .invokevirtual 154, 3, (3, 169, 11, 0), [1342, 81, 1340])) rfl (q := (mt_X11_mayTake, [.ref 542, .int k, .int u, .int a, .int v], [])) (mc_inv H (as := [.int k, .int u, .int a, .int v]) (rest := []) rfl (by with_unfolding_all rfl) rfl rfl rfl) ⟨rfl, rfl⟩ (pc' := 66) rfl (mc_mayTake (by omega) H k u a v hk0 hk1 hu (by omega)) (fun y14 e15 => ?_)
            refine mc_cz hmi (c := .eq) (tg := 73) (pc' := 69) rfl rfl rfl rfl (fun (q16 : y14.toInt = 0) => ?_) (fun (q16 : y14.toInt ≠ 0) => ?_)
            · refine mc_cx hmi 1 (F' := (74, [(4, .int u), (3, .int y3), (0, .ref 542), (1, .int k), (2, .int a)], [.int (Int32.ofInt 0)], h, n, 0, 0)) (by with_unfolding_all rfl) ?_
              exact mc_ret hmi rfl rfl rfl ⟨rfl, rfl, _, rfl, by decide⟩
            · refine mc_cx hmi 2 (F' := (74, [(4, .int u), (3, .int y3), (0, .ref 542), (1, .int k), (2, .int a)], [.int (Int32.ofInt 1)], h, n, 0, 0)) (by with_unfolding_all rfl) ?_
              exact mc_ret hmi rfl rfl rfl ⟨rfl, rfl, _, rfl, by decide⟩
          refine mc_ci hmi (c := .ge) (tg := 62) (pc' := 58) rfl rfl rfl e4 (by decide) (fun (q17 : 15 ≤ ab_ri h 561 ((j : Int))) => ?_) (fun (q17 : ab_ri h 561 ((j : Int)) < 15) => ?_)
          · refine mc_cx hmi 1 (F' := (63, [(4, .int u), (3, .int y3), (0, .ref 542), (1, .int k), (2, .int a)], [.int (Int32.ofInt 2), .int a, .int u, .int k, .ref 542], h, n, 0, 0)) (by with_unfolding_all rfl) ?_
            exact k2 _
          · refine mc_cx hmi 2 (F' := (63, [(4, .int u), (3, .int y3), (0, .ref 542), (1, .int k), (2, .int a)], [.int (Int32.ofInt 1), .int a, .int u, .int k, .ref 542], h, n, 0, 0)) (by with_unfolding_all rfl) ?_
            exact k2 _
    refine mc_cx hmi 2 (F' := (16, [(3, .int y3), (0, .ref 542), (1, .int k), (2, .int a)], [.int (Int8.ofInt 15).toInt32, .int y3], h, n, 0, 0)) (by with_unfolding_all rfl) ?_
    refine mc_ci hmi (c := .ge) (tg := 25) (pc' := 19) rfl rfl rfl e4 (by decide) (fun (q18 : 15 ≤ ab_ri h 561 ((j : Int))) => ?_) (fun (q18 : ab_ri h 561 ((j : Int)) < 15) => ?_)
    · refine mc_cx hmi 3 (F' := (29, [(3, .int y3), (0, .ref 542), (1, .int k), (2, .int a)], [.int (y3 - (Int8.ofInt 15).toInt32)], h, n, 0, 0)) (by with_unfolding_all rfl) ?_
      have e19 : (y3 - (Int8.ofInt 15).toInt32).toInt = ab_ri h 561 ((j : Int)) - 15 := mc_sub e4 (by decide) (by omega) (by omega)
      exact key _ (by rw [e19]; omega)
    · refine mc_cx hmi 4 (F' := (29, [(3, .int y3), (0, .ref 542), (1, .int k), (2, .int a)], [.int (y3 - (Int32.ofInt 1))], h, n, 0, 0)) (by with_unfolding_all rfl) ?_
      have e20 : (y3 - (Int32.ofInt 1)).toInt = ab_ri h 561 ((j : Int)) - 1 := mc_sub e4 (by decide) (by omega) (by omega)
      exact key _ (by rw [e20]; omega)
  · refine mc_cx hmi 1 (F' := (12, [(3, .int y3), (0, .ref 542), (1, .int k), (2, .int a)], [.int (Int32.ofInt 1)], h, n, 0, 0)) (by with_unfolding_all rfl) ?_
    exact mc_ret hmi rfl rfl rfl ⟨rfl, rfl, _, rfl, by decide⟩
set_option maxRecDepth 100000 in
theorem mc_worthBy {l : Launch} {G : ax_T} {d : Nat} {h : ax_H} {n : Nat} (hd : 1 ≤ d) (H : mc_HW h n) (a : Int32) {j : Nat} (hj : j ≤ 13) (ha : a.toInt = (j : Int)) : mc_M l G d mt_X11_worthBy [.ref 542, .int a] h n (mc_P h n fun _ => True) := by
  obtain ⟨d, rfl⟩ : ∃ e, d = e + 1 := ⟨d - 1, by omega⟩
  have hmi : mt_X11_worthBy ∈ mt_prog := List.mem_of_getElem? mi_X11_worthBy
  refine mc_to hmi rfl ?_
  show mc_R _ _ _ _ _ (0, [(0, .ref 542), (1, .int a)], [], h, n, 0, 0)
  refine mc_cx hmi 1 (F' := (1, [(0, .ref 542), (1, .int a)], [.ref 542], h, n, 0, 0)) (by with_unfolding_all rfl) ?_
  refine mc_getr hmi H (k := 542) (c := 561) (pc' := 4) rfl rfl rfl rfl rfl ?_
  refine mc_cx hmi 1 (F' := (5, [(0, .ref 542), (1, .int a)], [.int a, .ref 561], h, n, 0, 0)) (by with_unfolding_all rfl) ?_
  refine mc_iald hmi H (k := 561) (i := (j : Int)) (pc' := 6) rfl rfl rfl ha (by omega) (by omega) rfl (fun y21 e22 r23 r24 => ?_)
  rw [e22] at r23 r24
  refine mc_cx hmi 2 (F' := (8, [(2, .int y21), (0, .ref 542), (1, .int a)], [.ref 542], h, n, 0, 0)) (by with_unfolding_all rfl) ?_
  refine mc_getr hmi H (k := 542) (c := 560) (pc' := 11) rfl rfl rfl rfl rfl ?_
  refine mc_cx hmi 1 (F' := (12, [(2, .int y21), (0, .ref 542), (1, .int a)], [.int a, .ref 560], h, n, 0, 0)) (by with_unfolding_all rfl) ?_
  refine mc_iald hmi H (k := 560) (i := (j : Int)) (pc' := 13) rfl rfl rfl ha (by omega) (by omega) rfl (fun y25 e26 r27 r28 => ?_)
  rw [e26] at r27 r28
  refine mc_cx hmi 1 (F' := (14, [(2, .int y21), (0, .ref 542), (1, .int a)], [.ref 542, .int y25], h, n, 0, 0)) (by with_unfolding_all rfl) ?_
  refine mc_getr hmi H (k := 542) (c := 543) (pc' := 17) rfl rfl rfl rfl rfl ?_
  refine mc_cx hmi 1 (F' := (18, [(2, .int y21), (0, .ref 542), (1, .int a)], [.int a, .ref 543, .int y25], h, n, 0, 0)) (by with_unfolding_all rfl) ?_
  refine mc_iald hmi H (k := 543) (i := (j : Int)) (pc' := 19) rfl rfl rfl ha (by omega) (by omega) rfl (fun y29 e30 r31 r32 => ?_)
  rw [e30] at r31 r32
  refine mc_cx hmi 3 (F' := (22, [(3, .int (y25 * y29)), (2, .int y21), (0, .ref 542), (1, .int a)], [.int y21], h, n, 0, 0)) (by with_unfolding_all rfl) ?_
  refine mc_cz hmi (c := .ne) (tg := 29) (pc' := 25) rfl rfl rfl e22 (fun (q33 : ab_ri h 561 ((j : Int)) ≠ 0) => ?_) (fun (q33 : ab_ri h 561 ((j : Int)) = 0) => ?_)
  · refine mc_cx hmi 2 (F' := (32, [(3, .int (y25 * y29)), (2, .int y21), (0, .ref 542), (1, .int a)], [.int (Int8.ofInt 15).toInt32, .int y21], h, n, 0, 0)) (by with_unfolding_all rfl) ?_
    refine mc_ci hmi (c := .ge) (tg := 55) (pc' := 35) rfl rfl rfl e22 (by decide) (fun (q34 : 15 ≤ ab_ri h 561 ((j : Int))) => ?_) (fun (q34 : ab_ri h 561 ((j : Int)) < 15) => ?_)
    · refine mc_cx hmi 2 (F' := (57, [(3, .int (y25 * y29)), (2, .int y21), (0, .ref 542), (1, .int a)], [.ref 542, .int (y25 * y29)], h, n, 0, 0)) (by with_unfolding_all rfl) ?_
      refine mc_getr hmi H (k := 542) (c := 543) (pc' := 60) rfl rfl rfl rfl rfl ?_
      refine mc_cx hmi 1 (F' := (61, [(3, .int (y25 * y29)), (2, .int y21), (0, .ref 542), (1, .int a)], [.int a, .ref 543, .int (y25 * y29)], h, n, 0, 0)) (by with_unfolding_all rfl) ?_
      refine mc_iald hmi H (k := 543) (i := (j : Int)) (pc' := 62) rfl rfl rfl ha (by omega) (by omega) rfl (fun y35 e36 r37 r38 => ?_)
      rw [e36] at r37 r38
      refine mc_cx hmi 3 (F' := (65, [(3, .int (y25 * y29)), (2, .int y21), (0, .ref 542), (1, .int a)], [.ref 542, .int (Int32.ofInt 2), .int ((y25 * y29) + y35)], h, n, 0, 0)) (by with_unfolding_all rfl) ?_
      refine mc_getr hmi H (k := 542) (c := 543) (pc' := 68) rfl rfl rfl rfl rfl ?_
      refine mc_cx hmi 3 (F' := (72, [(3, .int (y25 * y29)), (2, .int y21), (0, .ref 542), (1, .int a)], [.int (y21 - (Int8.ofInt 15).toInt32), .ref 543, .int (Int32.ofInt 2), .int ((y25 * y29) + y35)], h, n, 0, 0)) (by with_unfolding_all rfl) ?_
      have e39 : (y21 - (Int8.ofInt 15).toInt32).toInt = ab_ri h 561 ((j : Int)) - 15 := mc_sub e22 (by decide) (by omega) (by omega)
      refine mc_iald hmi H (k := 543) (i := (ab_ri h 561 ((j : Int)) - 15)) (pc' := 73) rfl rfl rfl e39 (by omega) (by omega) rfl (fun y40 e41 r42 r43 => ?_)
      rw [e41] at r42 r43
      refine mc_cx hmi 2 (F' := (75, [(3, .int (y25 * y29)), (2, .int y21), (0, .ref 542), (1, .int a)], [.int (((y25 * y29) + y35) - ((Int32.ofInt 2) * y40))], h, n, 0, 0)) (by with_unfolding_all rfl) ?_
      exact mc_ret hmi rfl rfl rfl ⟨rfl, rfl, _, rfl, trivial⟩
    · refine mc_cx hmi 2 (F' := (37, [(3, .int (y25 * y29)), (2, .int y21), (0, .ref 542), (1, .int a)], [.ref 542, .int (y25 * y29)], h, n, 0, 0)) (by with_unfolding_all rfl) ?_
      refine mc_getr hmi H (k := 542) (c := 543) (pc' := 40) rfl rfl rfl rfl rfl ?_
      refine mc_cx hmi 1 (F' := (41, [(3, .int (y25 * y29)), (2, .int y21), (0, .ref 542), (1, .int a)], [.int a, .ref 543, .int (y25 * y29)], h, n, 0, 0)) (by with_unfolding_all rfl) ?_
      refine mc_iald hmi H (k := 543) (i := (j : Int)) (pc' := 42) rfl rfl rfl ha (by omega) (by omega) rfl (fun y44 e45 r46 r47 => ?_)
      rw [e45] at r46 r47
      refine mc_cx hmi 2 (F' := (44, [(3, .int (y25 * y29)), (2, .int y21), (0, .ref 542), (1, .int a)], [.ref 542, .int ((y25 * y29) + y44)], h, n, 0, 0)) (by with_unfolding_all rfl) ?_
      refine mc_getr hmi H (k := 542) (c := 543) (pc' := 47) rfl rfl rfl rfl rfl ?_
      refine mc_cx hmi 3 (F' := (50, [(3, .int (y25 * y29)), (2, .int y21), (0, .ref 542), (1, .int a)], [.int (y21 - (Int32.ofInt 1)), .ref 543, .int ((y25 * y29) + y44)], h, n, 0, 0)) (by with_unfolding_all rfl) ?_
      have e48 : (y21 - (Int32.ofInt 1)).toInt = ab_ri h 561 ((j : Int)) - 1 := mc_sub e22 (by decide) (by omega) (by omega)
      refine mc_iald hmi H (k := 543) (i := (ab_ri h 561 ((j : Int)) - 1)) (pc' := 51) rfl rfl rfl e48 (by omega) (by omega) rfl (fun y49 e50 r51 r52 => ?_)
      rw [e50] at r51 r52
      refine mc_cx hmi 2 (F' := (75, [(3, .int (y25 * y29)), (2, .int y21), (0, .ref 542), (1, .int a)], [.int (((y25 * y29) + y44) - y49)], h, n, 0, 0)) (by with_unfolding_all rfl) ?_
      exact mc_ret hmi rfl rfl rfl ⟨rfl, rfl, _, rfl, trivial⟩
  · refine mc_cx hmi 2 (F' := (75, [(3, .int (y25 * y29)), (2, .int y21), (0, .ref 542), (1, .int a)], [.int (y25 * y29)], h, n, 0, 0)) (by with_unfolding_all rfl) ?_
    exact mc_ret hmi rfl rfl rfl ⟨rfl, rfl, _, rfl, trivial⟩
set_option maxRecDepth 100000 in
theorem mc_mayCome {l : Launch} {G : ax_T} {d : Nat} {h : ax_H} {n : Nat} (hd : 1 ≤ d) (H : mc_HW h n) (a f s : Int32) {j : Nat} (hj : j ≤ 13) (ha : a.toInt = (j : Int)) : mc_M l G d mt_X11_mayCome [.ref 542, .int a, .int f, .int s] h n (mc_P h n fun y => y.toInt = 0 ∨ y.toInt = 1) := by
  obtain ⟨d, rfl⟩ : ∃ e, d = e + 1 := ⟨d - 1, by omega⟩
  have hmi : mt_X11_mayCome ∈ mt_prog := List.mem_of_getElem? mi_X11_mayCome
  refine mc_to hmi rfl ?_
  show mc_R _ _ _ _ _ (0, [(0, .ref 542), (1, .int a), (2, .int f), (3, .int s)], [], h, n, 0, 0)
  have no : mc_R l G mt_X11_mayCome d (mc_P h n fun y => y.toInt = 0 ∨ y.toInt = 1) (38, [(0, .ref 542), (1, .int a), (2, .int f), (3, .int s)], [], h, n, 0, 0) := by
    refine mc_cx hmi 1 (F' := (39, [(0, .ref 542), (1, .int a), (2, .int f), (3, .int s)], [.int (Int32.ofInt 0)], h, n, 0, 0)) (by with_unfolding_all rfl) ?_
    exact mc_ret hmi rfl rfl rfl ⟨rfl, rfl, _, rfl, by decide⟩
  have yes : mc_R l G mt_X11_mayCome d (mc_P h n fun y => y.toInt = 0 ∨ y.toInt = 1) (40, [(0, .ref 542), (1, .int a), (2, .int f), (3, .int s)], [], h, n, 0, 0) := by
    refine mc_cx hmi 1 (F' := (41, [(0, .ref 542), (1, .int a), (2, .int f), (3, .int s)], [.ref 542], h, n, 0, 0)) (by with_unfolding_all rfl) ?_
    refine mc_getr hmi H (k := 542) (c := 567) (pc' := 44) rfl rfl rfl rfl rfl ?_
    refine mc_cx hmi 1 (F' := (45, [(0, .ref 542), (1, .int a), (2, .int f), (3, .int s)], [.int a, .ref 567], h, n, 0, 0)) (by with_unfolding_all rfl) ?_
    refine mc_iald hmi H (k := 567) (i := (j : Int)) (pc' := 46) rfl rfl rfl ha (by omega) (by omega) rfl (fun y53 e54 r55 r56 => ?_)
    rw [e54] at r55 r56
    refine mc_cz hmi (c := .ne) (tg := 61) (pc' := 49) rfl rfl rfl e54 (fun (q57 : ab_ri h 567 ((j : Int)) ≠ 0) => ?_) (fun (q57 : ab_ri h 567 ((j : Int)) = 0) => ?_)
    · refine mc_cx hmi 2 (F' := (63, [(0, .ref 542), (1, .int a), (2, .int f), (3, .int s)], [.ref 542, .int f], h, n, 0, 0)) (by with_unfolding_all rfl) ?_
      refine mc_getr hmi H (k := 542) (c := 567) (pc' := 66) rfl rfl rfl rfl rfl ?_
      refine mc_cx hmi 1 (F' := (67, [(0, .ref 542), (1, .int a), (2, .int f), (3, .int s)], [.int a, .ref 567, .int f], h, n, 0, 0)) (by with_unfolding_all rfl) ?_
      refine mc_iald hmi H (k := 567) (i := (j : Int)) (pc' := 68) rfl rfl rfl ha (by omega) (by omega) rfl (fun y59 e60 r61 r62 => ?_)
      rw [e60] at r61 r62
      refine mc_irem hmi (pc' := 69) rfl (show y59.toInt ≠ 0 by rw [e60]; omega) rfl ?_
      refine mc_cz hmi (c := .ne) (tg := 76) (pc' := 72) rfl rfl rfl rfl (fun (q63 : (f - f / y59 * y59).toInt ≠ 0) => ?_) (fun (q63 : (f - f / y59 * y59).toInt = 0) => ?_)
      · refine mc_cx hmi 1 (F' := (77, [(0, .ref 542), (1, .int a), (2, .int f), (3, .int s)], [.int (Int32.ofInt 0)], h, n, 0, 0)) (by with_unfolding_all rfl) ?_
        exact mc_ret hmi rfl rfl rfl ⟨rfl, rfl, _, rfl, by decide⟩
      · refine mc_cx hmi 2 (F' := (77, [(0, .ref 542), (1, .int a), (2, .int f), (3, .int s)], [.int (Int32.ofInt 1)], h, n, 0, 0)) (by with_unfolding_all rfl) ?_
        exact mc_ret hmi rfl rfl rfl ⟨rfl, rfl, _, rfl, by decide⟩
    · refine mc_cx hmi 1 (F' := (50, [(0, .ref 542), (1, .int a), (2, .int f), (3, .int s)], [.int f], h, n, 0, 0)) (by with_unfolding_all rfl) ?_
      refine mc_cz hmi (c := .ne) (tg := 57) (pc' := 53) rfl rfl rfl rfl (fun (q58 : f.toInt ≠ 0) => ?_) (fun (q58 : f.toInt = 0) => ?_)
      · refine mc_cx hmi 2 (F' := (77, [(0, .ref 542), (1, .int a), (2, .int f), (3, .int s)], [.int (Int32.ofInt 0)], h, n, 0, 0)) (by with_unfolding_all rfl) ?_
        exact mc_ret hmi rfl rfl rfl ⟨rfl, rfl, _, rfl, by decide⟩
      · refine mc_cx hmi 2 (F' := (77, [(0, .ref 542), (1, .int a), (2, .int f), (3, .int s)], [.int (Int32.ofInt 1)], h, n, 0, 0)) (by with_unfolding_all rfl) ?_
        exact mc_ret hmi rfl rfl rfl ⟨rfl, rfl, _, rfl, by decide⟩
  refine mc_cx hmi 2 (F' := (2, [(0, .ref 542), (1, .int a), (2, .int f), (3, .int s)], [.ref 542, .int f], h, n, 0, 0)) (by with_unfolding_all rfl) ?_
  refine mc_getr hmi H (k := 542) (c := 566) (pc' := 5) rfl rfl rfl rfl rfl ?_
  refine mc_cx hmi 1 (F' := (6, [(0, .ref 542), (1, .int a), (2, .int f), (3, .int s)], [.int a, .ref 566, .int f], h, n, 0, 0)) (by with_unfolding_all rfl) ?_
  refine mc_iald hmi H (k := 566) (i := (j : Int)) (pc' := 7) rfl rfl rfl ha (by omega) (by omega) rfl (fun y64 e65 r66 r67 => ?_)
  rw [e65] at r66 r67
  refine mc_ci hmi (c := .lt) (tg := 38) (pc' := 10) rfl rfl rfl rfl e65 (fun (q68 : f.toInt < ab_ri h 566 ((j : Int))) => ?_) (fun (q68 : ab_ri h 566 ((j : Int)) ≤ f.toInt) => ?_)
  · exact no
  · refine mc_cx hmi 2 (F' := (12, [(0, .ref 542), (1, .int a), (2, .int f), (3, .int s)], [.ref 542, .int f], h, n, 0, 0)) (by with_unfolding_all rfl) ?_
    refine mc_getr hmi H (k := 542) (c := 565) (pc' := 15) rfl rfl rfl rfl rfl ?_
    refine mc_cx hmi 1 (F' := (16, [(0, .ref 542), (1, .int a), (2, .int f), (3, .int s)], [.int a, .ref 565, .int f], h, n, 0, 0)) (by with_unfolding_all rfl) ?_
    refine mc_iald hmi H (k := 565) (i := (j : Int)) (pc' := 17) rfl rfl rfl ha (by omega) (by omega) rfl (fun y69 e70 r71 r72 => ?_)
    rw [e70] at r71 r72
    refine mc_ci hmi (c := .gt) (tg := 38) (pc' := 20) rfl rfl rfl rfl e70 (fun (q73 : ab_ri h 565 ((j : Int)) < f.toInt) => ?_) (fun (q73 : f.toInt ≤ ab_ri h 565 ((j : Int))) => ?_)
    · exact no
    · refine mc_cx hmi 1 (F' := (21, [(0, .ref 542), (1, .int a), (2, .int f), (3, .int s)], [.int a], h, n, 0, 0)) (by with_unfolding_all rfl) ?_
      refine mc_cz hmi (c := .le) (tg := 40) (pc' := 24) rfl rfl rfl ha (fun (q74 : (j : Int) ≤ 0) => ?_) (fun (q74 : 0 < (j : Int)) => ?_)
      · exact yes
      · refine mc_cx hmi 3 (F' := (27, [(0, .ref 542), (1, .int a), (2, .int f), (3, .int s)], [.ref 542, .int s, .int f], h, n, 0, 0)) (by with_unfolding_all rfl) ?_
        refine mc_getr hmi H (k := 542) (c := 543) (pc' := 30) rfl rfl rfl rfl rfl ?_
        refine mc_cx hmi 3 (F' := (33, [(0, .ref 542), (1, .int a), (2, .int f), (3, .int s)], [.int (a - (Int32.ofInt 1)), .ref 543, .int s, .int f], h, n, 0, 0)) (by with_unfolding_all rfl) ?_
        have e75 : (a - (Int32.ofInt 1)).toInt = (j : Int) - 1 := mc_sub ha (by decide) (by omega) (by omega)
        refine mc_iald hmi H (k := 543) (i := ((j : Int) - 1)) (pc' := 34) rfl rfl rfl e75 (by omega) (by omega) rfl (fun y76 e77 r78 r79 => ?_)
        rw [e77] at r78 r79
        refine mc_cx hmi 1 (F' := (35, [(0, .ref 542), (1, .int a), (2, .int f), (3, .int s)], [.int (s * y76), .int f], h, n, 0, 0)) (by with_unfolding_all rfl) ?_
        refine mc_ci hmi (c := .le) (tg := 40) (pc' := 38) rfl rfl rfl rfl rfl (fun (q80 : f.toInt ≤ (s * y76).toInt) => ?_) (fun (q80 : (s * y76).toInt < f.toInt) => ?_)
        · exact yes
        · exact no
def NWf (h h' : ax_H) (j : Nat) : Prop := ∀ (k : Nat) (i : Int), (k = 560 → i ≠ (j : Int)) → (k = 561 → i ≠ (j : Int)) → ab_rd h' k i = ab_rd h k i
set_option maxRecDepth 100000 in
theorem nw_loop {l : Launch} {G : ax_T} {d : Nat} {h : ax_H} {n : Nat} (hd : 2 ≤ d) (k a : Int32) (hk0 : 0 ≤ k.toInt) (hk1 : k.toInt ≤ 5) {j : Nat} (hj : j ≤ 13) (ha : a.toInt = (j : Int)) : ∀ (c : Nat) (h' : ax_H) (f : Int32), mc_HW h' n → NWf h h' j → ((f.toInt = 0 ∧ lvl h' j ≤ lvl h j) ∨ (f.toInt = 1 ∧ 0 ≤ ab_ri h' 560 (j : Int) ∧ lvl h' j < lvl h j)) → (lvl h' j).toNat * 2 + 1 ≤ c + f.toInt.toNat → mc_R l G mt_X11_nextWay d (fun r' h' n' => n' = n ∧ mc_HW h' n ∧ NWf h h' j ∧ ∃ y : Int32, r' = some (.int y) ∧ (y.toInt = 0 ∨ y.toInt = 1 ∧ 0 ≤ ab_ri h' 560 (j : Int) ∧ lvl h' j < lvl h j)) (2, [(0, .ref 542), (1, .int k), (2, .int a), (3, .int f)], [], h', n, 0, 0) := by
  have hmi : mt_X11_nextWay ∈ mt_prog := List.mem_of_getElem? mi_X11_nextWay
  intro c
  induction c with
  | zero =>
    intro h' f H' hfr hinv hc
    have q : f.toInt = 1 ∧ 0 ≤ ab_ri h' 560 (j : Int) ∧ lvl h' j < lvl h j := by
      rcases hinv with q | q
      · omega
      · exact q
    refine mc_cx hmi 1 (F' := (3, [(0, .ref 542), (1, .int k), (2, .int a), (3, .int f)], [.int f], h', n, 0, 0)) (by with_unfolding_all rfl) ?_
    refine mc_cz hmi (c := .ne) (tg := 124) (pc' := 6) rfl rfl rfl rfl (fun (q81 : f.toInt ≠ 0) => ?_) (fun (q81 : f.toInt = 0) => ?_)
    · refine mc_cx hmi 1 (F' := (125, [(0, .ref 542), (1, .int k), (2, .int a), (3, .int f)], [.int f], h', n, 0, 0)) (by with_unfolding_all rfl) ?_
      exact mc_ret hmi rfl rfl (mc_rb (Or.inr q.1)) ⟨rfl, H', hfr, _, rfl, Or.inr q⟩
    · exact absurd q81 (by omega)
  | succ c ih =>
    intro h' f H' hfr hinv hc
    refine mc_cx hmi 1 (F' := (3, [(0, .ref 542), (1, .int k), (2, .int a), (3, .int f)], [.int f], h', n, 0, 0)) (by with_unfolding_all rfl) ?_
    refine mc_cz hmi (c := .ne) (tg := 124) (pc' := 6) rfl rfl rfl rfl (fun (q82 : f.toInt ≠ 0) => ?_) (fun (q82 : f.toInt = 0) => ?_)
    · have q : f.toInt = 1 ∧ 0 ≤ ab_ri h' 560 (j : Int) ∧ lvl h' j < lvl h j := by
        rcases hinv with q | q
        · exact absurd q.1 q82
        · exact q
      refine mc_cx hmi 1 (F' := (125, [(0, .ref 542), (1, .int k), (2, .int a), (3, .int f)], [.int f], h', n, 0, 0)) (by with_unfolding_all rfl) ?_
      exact mc_ret hmi rfl rfl (mc_rb (Or.inr q.1)) ⟨rfl, H', hfr, _, rfl, Or.inr q⟩
    · have hl : lvl h' j ≤ lvl h j := by rcases hinv with q | q <;> omega
      refine mc_cx hmi 1 (F' := (7, [(0, .ref 542), (1, .int k), (2, .int a), (3, .int f)], [.ref 542], h', n, 0, 0)) (by with_unfolding_all rfl) ?_
      refine mc_getr hmi H' (k := 542) (c := 560) (pc' := 10) rfl rfl rfl rfl rfl ?_
      refine mc_cx hmi 1 (F' := (11, [(0, .ref 542), (1, .int k), (2, .int a), (3, .int f)], [.int a, .ref 560], h', n, 0, 0)) (by with_unfolding_all rfl) ?_
      refine mc_iald hmi H' (k := 560) (i := (j : Int)) (pc' := 12) rfl rfl rfl ha (by omega) (by omega) rfl (fun y83 e84 r85 r86 => ?_)
      rw [e84] at r85 r86
      refine mc_cz hmi (c := .lt) (tg := 124) (pc' := 15) rfl rfl rfl e84 (fun (q87 : ab_ri h' 560 ((j : Int)) < 0) => ?_) (fun (q87 : 0 ≤ ab_ri h' 560 ((j : Int))) => ?_)
      · refine mc_cx hmi 1 (F' := (125, [(0, .ref 542), (1, .int k), (2, .int a), (3, .int f)], [.int f], h', n, 0, 0)) (by with_unfolding_all rfl) ?_
        exact mc_ret hmi rfl rfl (mc_rb (Or.inl q82)) ⟨rfl, H', hfr, _, rfl, Or.inl q82⟩
      · have hp0 : 0 ≤ ab_ri h' 560 (j : Int) := q87
        have k97 : ∀ h2 : ax_H, mc_HW h2 n → NWf h h2 j → lvl h2 j < lvl h' j → 0 ≤ lvl h2 j → mc_R l G mt_X11_nextWay d (fun r' h' n' => n' = n ∧ mc_HW h' n ∧ NWf h h' j ∧ ∃ y : Int32, r' = some (.int y) ∧ (y.toInt = 0 ∨ y.toInt = 1 ∧ 0 ≤ ab_ri h' 560 (j : Int) ∧ lvl h' j < lvl h j)) (97, [(0, .ref 542), (1, .int k), (2, .int a), (3, .int f)], [], h2, n, 0, 0) := by
          intro h2 H2 f2 l2 l0
          have k120 : ∀ u : Int32, (u.toInt = 0 ∨ u.toInt = 1 ∧ 0 ≤ ab_ri h2 560 (j : Int)) → mc_R l G mt_X11_nextWay d (fun r' h' n' => n' = n ∧ mc_HW h' n ∧ NWf h h' j ∧ ∃ y : Int32, r' = some (.int y) ∧ (y.toInt = 0 ∨ y.toInt = 1 ∧ 0 ≤ ab_ri h' 560 (j : Int) ∧ lvl h' j < lvl h j)) (120, [(0, .ref 542), (1, .int k), (2, .int a), (3, .int f)], [.int u], h2, n, 0, 0) := by
            intro u hu
            refine mc_cx hmi 2 (F' := (2, [(3, .int u), (0, .ref 542), (1, .int k), (2, .int a)], [], h2, n, 0, 0)) (by with_unfolding_all rfl) ?_
            refine mc_lvs (lv' := [(0, .ref 542), (1, .int k), (2, .int a), (3, .int u)]) (by simp) ?_
            refine ih h2 u H2 f2 (hu.elim (fun q => Or.inl ⟨q, by omega⟩) (fun q => Or.inr ⟨q.1, q.2, by omega⟩)) (by omega)
          refine mc_cx hmi 1 (F' := (98, [(0, .ref 542), (1, .int k), (2, .int a), (3, .int f)], [.ref 542], h2, n, 0, 0)) (by with_unfolding_all rfl) ?_
          refine mc_getr hmi H2 (k := 542) (c := 560) (pc' := 101) rfl rfl rfl rfl rfl ?_
          refine mc_cx hmi 1 (F' := (102, [(0, .ref 542), (1, .int k), (2, .int a), (3, .int f)], [.int a, .ref 560], h2, n, 0, 0)) (by with_unfolding_all rfl) ?_
          refine mc_iald hmi H2 (k := 560) (i := (j : Int)) (pc' := 103) rfl rfl rfl ha (by omega) (by omega) rfl (fun y88 e89 r90 r91 => ?_)
          rw [e89] at r90 r91
          refine mc_cz hmi (c := .lt) (tg := 119) (pc' := 106) rfl rfl rfl e89 (fun (q92 : ab_ri h2 560 ((j : Int)) < 0) => ?_) (fun (q92 : 0 ≤ ab_ri h2 560 ((j : Int))) => ?_)
          · refine mc_cx hmi 1 (F' := (120, [(0, .ref 542), (1, .int k), (2, .int a), (3, .int f)], [.int (Int32.ofInt 0)], h2, n, 0, 0)) (by with_unfolding_all rfl) ?_
            exact k120 _ (Or.inl (by decide))
          · refine mc_cx hmi 3 (F' := (109, [(0, .ref 542), (1, .int k), (2, .int a), (3, .int f)], [.int a, .int k, .ref 542], h2, n, 0, 0)) (by with_unfolding_all rfl) ?_
            refine mc_callP hmi (en := (109, .invokevirtual 170, 3, (3, 178, 11, 0), [1378, 87, 1376])) rfl (q := (mt_X11_isAllowed, [.ref 542, .int k, .int a], [])) (mc_inv H2 (as := [.int k, .int a]) (rest := []) rfl (by with_unfolding_all rfl) rfl rfl rfl) ⟨rfl, rfl⟩ (pc' := 112) rfl (mc_isAllowed hd H2 k a hk0 hk1 hj ha) (fun y93 e94 => ?_)
            refine mc_cz hmi (c := .eq) (tg := 119) (pc' := 115) rfl rfl rfl rfl (fun (q95 : y93.toInt = 0) => ?_) (fun (q95 : y93.toInt ≠ 0) => ?_)
            · refine mc_cx hmi 1 (F' := (120, [(0, .ref 542), (1, .int k), (2, .int a), (3, .int f)], [.int (Int32.ofInt 0)], h2, n, 0, 0)) (by with_unfolding_all rfl) ?_
              exact k120 _ (Or.inl (by decide))
            · refine mc_cx hmi 2 (F' := (120, [(0, .ref 542), (1, .int k), (2, .int a), (3, .int f)], [.int (Int32.ofInt 1)], h2, n, 0, 0)) (by with_unfolding_all rfl) ?_
              exact k120 _ (Or.inr ⟨by decide, q92⟩)
        refine mc_cx hmi 1 (F' := (16, [(0, .ref 542), (1, .int k), (2, .int a), (3, .int f)], [.ref 542], h', n, 0, 0)) (by with_unfolding_all rfl) ?_
        refine mc_getr hmi H' (k := 542) (c := 561) (pc' := 19) rfl rfl rfl rfl rfl ?_
        refine mc_cx hmi 1 (F' := (20, [(0, .ref 542), (1, .int k), (2, .int a), (3, .int f)], [.int a, .ref 561], h', n, 0, 0)) (by with_unfolding_all rfl) ?_
        refine mc_iald hmi H' (k := 561) (i := (j : Int)) (pc' := 21) rfl rfl rfl ha (by omega) (by omega) rfl (fun y96 e97 r98 r99 => ?_)
        rw [e97] at r98 r99
        refine mc_cz hmi (c := .ne) (tg := 35) (pc' := 24) rfl rfl rfl e97 (fun (q100 : ab_ri h' 561 ((j : Int)) ≠ 0) => ?_) (fun (q100 : ab_ri h' 561 ((j : Int)) = 0) => ?_)
        · refine mc_cx hmi 1 (F' := (36, [(0, .ref 542), (1, .int k), (2, .int a), (3, .int f)], [.ref 542], h', n, 0, 0)) (by with_unfolding_all rfl) ?_
          refine mc_getr hmi H' (k := 542) (c := 561) (pc' := 39) rfl rfl rfl rfl rfl ?_
          refine mc_cx hmi 1 (F' := (40, [(0, .ref 542), (1, .int k), (2, .int a), (3, .int f)], [.int a, .ref 561], h', n, 0, 0)) (by with_unfolding_all rfl) ?_
          refine mc_iald hmi H' (k := 561) (i := (j : Int)) (pc' := 41) rfl rfl rfl ha (by omega) (by omega) rfl (fun y104 e105 r106 r107 => ?_)
          rw [e105] at r106 r107
          refine mc_cx hmi 1 (F' := (42, [(0, .ref 542), (1, .int k), (2, .int a), (3, .int f)], [.int (Int32.ofInt 1), .int y104], h', n, 0, 0)) (by with_unfolding_all rfl) ?_
          refine mc_ci hmi (c := .ne) (tg := 56) (pc' := 45) rfl rfl rfl e105 (by decide) (fun (q108 : ab_ri h' 561 ((j : Int)) ≠ 1) => ?_) (fun (q108 : ab_ri h' 561 ((j : Int)) = 1) => ?_)
          · refine mc_cx hmi 1 (F' := (57, [(0, .ref 542), (1, .int k), (2, .int a), (3, .int f)], [.ref 542], h', n, 0, 0)) (by with_unfolding_all rfl) ?_
            refine mc_getr hmi H' (k := 542) (c := 561) (pc' := 60) rfl rfl rfl rfl rfl ?_
            refine mc_cx hmi 1 (F' := (61, [(0, .ref 542), (1, .int k), (2, .int a), (3, .int f)], [.int a, .ref 561], h', n, 0, 0)) (by with_unfolding_all rfl) ?_
            refine mc_iald hmi H' (k := 561) (i := (j : Int)) (pc' := 62) rfl rfl rfl ha (by omega) (by omega) rfl (fun y112 e113 r114 r115 => ?_)
            rw [e113] at r114 r115
            refine mc_cx hmi 1 (F' := (64, [(0, .ref 542), (1, .int k), (2, .int a), (3, .int f)], [.int (Int8.ofInt 15).toInt32, .int y112], h', n, 0, 0)) (by with_unfolding_all rfl) ?_
            refine mc_ci hmi (c := .ne) (tg := 87) (pc' := 67) rfl rfl rfl e113 (by decide) (fun (q116 : ab_ri h' 561 ((j : Int)) ≠ 15) => ?_) (fun (q116 : ab_ri h' 561 ((j : Int)) = 15) => ?_)
            · refine mc_cx hmi 1 (F' := (88, [(0, .ref 542), (1, .int k), (2, .int a), (3, .int f)], [.ref 542], h', n, 0, 0)) (by with_unfolding_all rfl) ?_
              refine mc_getr hmi H' (k := 542) (c := 561) (pc' := 91) rfl rfl rfl rfl rfl ?_
              refine mc_cx hmi 2 (F' := (93, [(0, .ref 542), (1, .int k), (2, .int a), (3, .int f)], [.int a, .ref 561, .int a, .ref 561], h', n, 0, 0)) (by with_unfolding_all rfl) ?_
              refine mc_iald hmi H' (k := 561) (i := (j : Int)) (pc' := 94) rfl rfl rfl ha (by omega) (by omega) rfl (fun y128 e129 r130 r131 => ?_)
              rw [e129] at r130 r131
              refine mc_cx hmi 2 (F' := (96, [(0, .ref 542), (1, .int k), (2, .int a), (3, .int f)], [.int (y128 - (Int32.ofInt 1)), .int a, .ref 561], h', n, 0, 0)) (by with_unfolding_all rfl) ?_
              have e132 : (y128 - (Int32.ofInt 1)).toInt = ab_ri h' 561 ((j : Int)) - 1 := mc_sub e129 (by decide) (by omega) (by omega)
              refine mc_iast hmi H' (k := 561) (i := (j : Int)) (pc' := 97) rfl rfl rfl ha (by omega) (by omega) (by rw [e132]; omega) (by rw [e132]; omega) rfl (fun h133 H134 w135 => ?_)
              refine mc_lvs (lv' := [(0, .ref 542), (1, .int k), (2, .int a), (3, .int f)]) (by simp) ?_
              have gP : ab_ri h133 560 (j : Int) = ab_ri h' 560 (j : Int) := by rw [mc_ri w135, if_neg (fun q => absurd q.1 (by decide))]
              have gT : ab_ri h133 561 (j : Int) = ab_ri h' 561 (j : Int) - 1 := by rw [mc_ri w135, if_pos ⟨rfl, rfl⟩]; omega
              refine k97 h133 H134 (fun k' i' p1 p2 => ?_) ?_ ?_
              · rw [w135, if_neg (fun q => p2 q.1 q.2)]; exact hfr k' i' p1 p2
              · unfold lvl rk; rw [gP, gT]; repeat' split
                all_goals omega
              · unfold lvl rk; rw [gP, gT]; repeat' split
                all_goals omega
            · refine mc_cx hmi 1 (F' := (68, [(0, .ref 542), (1, .int k), (2, .int a), (3, .int f)], [.ref 542], h', n, 0, 0)) (by with_unfolding_all rfl) ?_
              refine mc_getr hmi H' (k := 542) (c := 561) (pc' := 71) rfl rfl rfl rfl rfl ?_
              refine mc_cx hmi 2 (F' := (73, [(0, .ref 542), (1, .int k), (2, .int a), (3, .int f)], [.int (Int32.ofInt 0), .int a, .ref 561], h', n, 0, 0)) (by with_unfolding_all rfl) ?_
              refine mc_iast hmi H' (k := 561) (i := (j : Int)) (pc' := 74) rfl rfl rfl ha (by omega) (by omega) (by rw [show ((Int32.ofInt 0)).toInt = 0 from by decide]; omega) (by rw [show ((Int32.ofInt 0)).toInt = 0 from by decide]; omega) rfl (fun h117 H118 w119 => ?_)
              refine mc_cx hmi 1 (F' := (75, [(0, .ref 542), (1, .int k), (2, .int a), (3, .int f)], [.ref 542], h117, n, 0, 0)) (by with_unfolding_all rfl) ?_
              refine mc_getr hmi H118 (k := 542) (c := 560) (pc' := 78) rfl rfl rfl rfl rfl ?_
              have c1 : ab_ri h117 560 (j : Int) = ab_ri h' 560 (j : Int) := by rw [mc_ri w119, if_neg (fun q => absurd q.1 (by decide))]
              refine mc_cx hmi 2 (F' := (80, [(0, .ref 542), (1, .int k), (2, .int a), (3, .int f)], [.int a, .ref 560, .int a, .ref 560], h117, n, 0, 0)) (by with_unfolding_all rfl) ?_
              refine mc_iald hmi H118 (k := 560) (i := (j : Int)) (pc' := 81) rfl rfl rfl ha (by omega) (by omega) rfl (fun y120 e121 r122 r123 => ?_)
              rw [e121] at r122 r123
              refine mc_cx hmi 2 (F' := (83, [(0, .ref 542), (1, .int k), (2, .int a), (3, .int f)], [.int (y120 - (Int32.ofInt 1)), .int a, .ref 560], h117, n, 0, 0)) (by with_unfolding_all rfl) ?_
              have e124 : (y120 - (Int32.ofInt 1)).toInt = ab_ri h117 560 ((j : Int)) - 1 := mc_sub e121 (by decide) (by omega) (by omega)
              refine mc_iast hmi H118 (k := 560) (i := (j : Int)) (pc' := 84) rfl rfl rfl ha (by omega) (by omega) (by rw [e124]; omega) (by rw [e124]; omega) rfl (fun h125 H126 w127 => ?_)
              refine mc_cx hmi 1 (F' := (97, [(0, .ref 542), (1, .int k), (2, .int a), (3, .int f)], [], h125, n, 0, 0)) (by with_unfolding_all rfl) ?_
              refine mc_lvs (lv' := [(0, .ref 542), (1, .int k), (2, .int a), (3, .int f)]) (by simp) ?_
              have gP : ab_ri h125 560 (j : Int) = ab_ri h' 560 (j : Int) - 1 := by rw [mc_ri w127, if_pos ⟨rfl, rfl⟩]; omega
              have gT : ab_ri h125 561 (j : Int) = 0 := by rw [mc_ri w127, if_neg (fun q => absurd q.1 (by decide)), mc_ri w119, if_pos ⟨rfl, rfl⟩]; decide
              refine k97 h125 H126 (fun k' i' p1 p2 => ?_) ?_ ?_
              · rw [w127, if_neg (fun q => p1 q.1 q.2), w119, if_neg (fun q => p2 q.1 q.2)]; exact hfr k' i' p1 p2
              · unfold lvl rk; rw [gP, gT]; repeat' split
                all_goals omega
              · unfold lvl rk; rw [gP, gT]; repeat' split
                all_goals omega
          · refine mc_cx hmi 1 (F' := (46, [(0, .ref 542), (1, .int k), (2, .int a), (3, .int f)], [.ref 542], h', n, 0, 0)) (by with_unfolding_all rfl) ?_
            refine mc_getr hmi H' (k := 542) (c := 561) (pc' := 49) rfl rfl rfl rfl rfl ?_
            refine mc_cx hmi 2 (F' := (52, [(0, .ref 542), (1, .int k), (2, .int a), (3, .int f)], [.int (Int8.ofInt 28).toInt32, .int a, .ref 561], h', n, 0, 0)) (by with_unfolding_all rfl) ?_
            refine mc_iast hmi H' (k := 561) (i := (j : Int)) (pc' := 53) rfl rfl rfl ha (by omega) (by omega) (by rw [show ((Int8.ofInt 28).toInt32).toInt = 28 from by decide]; omega) (by rw [show ((Int8.ofInt 28).toInt32).toInt = 28 from by decide]; omega) rfl (fun h109 H110 w111 => ?_)
            refine mc_cx hmi 1 (F' := (97, [(0, .ref 542), (1, .int k), (2, .int a), (3, .int f)], [], h109, n, 0, 0)) (by with_unfolding_all rfl) ?_
            refine mc_lvs (lv' := [(0, .ref 542), (1, .int k), (2, .int a), (3, .int f)]) (by simp) ?_
            have gP : ab_ri h109 560 (j : Int) = ab_ri h' 560 (j : Int) := by rw [mc_ri w111, if_neg (fun q => absurd q.1 (by decide))]
            have gT : ab_ri h109 561 (j : Int) = 28 := by rw [mc_ri w111, if_pos ⟨rfl, rfl⟩]; decide
            refine k97 h109 H110 (fun k' i' p1 p2 => ?_) ?_ ?_
            · rw [w111, if_neg (fun q => p2 q.1 q.2)]; exact hfr k' i' p1 p2
            · unfold lvl rk; rw [gP, gT]; repeat' split
              all_goals omega
            · unfold lvl rk; rw [gP, gT]; repeat' split
              all_goals omega
        · refine mc_cx hmi 1 (F' := (25, [(0, .ref 542), (1, .int k), (2, .int a), (3, .int f)], [.ref 542], h', n, 0, 0)) (by with_unfolding_all rfl) ?_
          refine mc_getr hmi H' (k := 542) (c := 561) (pc' := 28) rfl rfl rfl rfl rfl ?_
          refine mc_cx hmi 2 (F' := (31, [(0, .ref 542), (1, .int k), (2, .int a), (3, .int f)], [.int (Int8.ofInt 14).toInt32, .int a, .ref 561], h', n, 0, 0)) (by with_unfolding_all rfl) ?_
          refine mc_iast hmi H' (k := 561) (i := (j : Int)) (pc' := 32) rfl rfl rfl ha (by omega) (by omega) (by rw [show ((Int8.ofInt 14).toInt32).toInt = 14 from by decide]; omega) (by rw [show ((Int8.ofInt 14).toInt32).toInt = 14 from by decide]; omega) rfl (fun h101 H102 w103 => ?_)
          refine mc_cx hmi 1 (F' := (97, [(0, .ref 542), (1, .int k), (2, .int a), (3, .int f)], [], h101, n, 0, 0)) (by with_unfolding_all rfl) ?_
          refine mc_lvs (lv' := [(0, .ref 542), (1, .int k), (2, .int a), (3, .int f)]) (by simp) ?_
          have gP : ab_ri h101 560 (j : Int) = ab_ri h' 560 (j : Int) := by rw [mc_ri w103, if_neg (fun q => absurd q.1 (by decide))]
          have gT : ab_ri h101 561 (j : Int) = 14 := by rw [mc_ri w103, if_pos ⟨rfl, rfl⟩]; decide
          refine k97 h101 H102 (fun k' i' p1 p2 => ?_) ?_ ?_
          · rw [w103, if_neg (fun q => p2 q.1 q.2)]; exact hfr k' i' p1 p2
          · unfold lvl rk; rw [gP, gT]; repeat' split
            all_goals omega
          · unfold lvl rk; rw [gP, gT]; repeat' split
            all_goals omega
set_option maxRecDepth 100000 in
theorem mc_nextWay {l : Launch} {G : ax_T} {d : Nat} {h : ax_H} {n : Nat} (hd : 3 ≤ d) (H : mc_HW h n) (k a : Int32) (hk0 : 0 ≤ k.toInt) (hk1 : k.toInt ≤ 5) {j : Nat} (hj : j ≤ 13) (ha : a.toInt = (j : Int)) : mc_M l G d mt_X11_nextWay [.ref 542, .int k, .int a] h n (fun r' h' n' => n' = n ∧ mc_HW h' n ∧ NWf h h' j ∧ ∃ y : Int32, r' = some (.int y) ∧ (y.toInt = 0 ∨ y.toInt = 1 ∧ 0 ≤ ab_ri h' 560 (j : Int) ∧ lvl h' j < lvl h j)) := by
  obtain ⟨d, rfl⟩ : ∃ e, d = e + 1 := ⟨d - 1, by omega⟩
  have hmi : mt_X11_nextWay ∈ mt_prog := List.mem_of_getElem? mi_X11_nextWay
  refine mc_to hmi rfl ?_
  show mc_R _ _ _ _ _ (0, [(0, .ref 542), (1, .int k), (2, .int a)], [], h, n, 0, 0)
  refine mc_cx hmi 2 (F' := (2, [(3, .int (Int32.ofInt 0)), (0, .ref 542), (1, .int k), (2, .int a)], [], h, n, 0, 0)) (by with_unfolding_all rfl) ?_
  refine mc_lvs (lv' := [(0, .ref 542), (1, .int k), (2, .int a), (3, .int (Int32.ofInt 0))]) (by simp) ?_
  exact nw_loop (by omega) k a hk0 hk1 hj ha _ h (Int32.ofInt 0) H (fun _ _ _ _ => rfl) (Or.inl ⟨by decide, Int.le_refl _⟩) (Nat.le_add_right _ _)
end
section
/-! ===== by hand: layRow, noteOne, open, down, in the reference (ways printed by wip/hand/h_seek2.py) ===== -/
set_option maxRecDepth 100000 in
theorem ly_1 {l : Launch} {G : ax_T} {d : Nat} {Q : Option Value → ax_H → Nat → Prop} {h : ax_H} {n : Nat} (a : Int32) {j : Nat} (ha : a.toInt = (j : Int)) (hj : j ≤ 13) (hnn : 0 ≤ sm (fS h) j) {tot : Int} (htot : tot ≤ 24) (kk : ∀ (h' : ax_H) (z : Int32), mc_HW h' n → (∀ (k' : Nat) (i' : Int), k' ≠ 549 → k' ≠ 550 → ab_rd h' k' i' = ab_rd h k' i') → z.toInt + sg (ab_ri h 561 (j : Int)) + sm (fS h) j = tot → 0 ≤ z.toInt → mc_R l G mt_X11_layRow d Q (41, [(0, .ref 542), (1, .int z), (2, .int a)], [], h', n, 0, 0)) : ∀ (c : Nat) (h' : ax_H) (z k : Int32), mc_HW h' n → (∀ (k' : Nat) (i' : Int), k' ≠ 549 → k' ≠ 550 → ab_rd h' k' i' = ab_rd h k' i') → 0 ≤ k.toInt → k.toInt + (c : Int) = ab_ri h 560 (j : Int) → 0 ≤ z.toInt → z.toInt + (c : Int) + sg (ab_ri h 561 (j : Int)) + sm (fS h) j = tot → mc_R l G mt_X11_layRow d Q (11, [(0, .ref 542), (1, .int z), (2, .int a), (3, .int k)], [], h', n, 0, 0) := by
  have hmi : mt_X11_layRow ∈ mt_prog := List.mem_of_getElem? mi_X11_layRow
  have hsg := sg_b (ab_ri h 561 (j : Int))
  intro c
  induction c with
  | zero =>
    intro h' z k H' hfr hk0 hk hz0 hz
    have hgP : ab_ri h' 560 (j : Int) = ab_ri h 560 (j : Int) := ab_ri_of (hfr 560 _ (by decide) (by decide))
    have hgT : ab_ri h' 561 (j : Int) = ab_ri h 561 (j : Int) := ab_ri_of (hfr 561 _ (by decide) (by decide))
    refine mc_cx hmi 2 (F' := (13, [(0, .ref 542), (1, .int z), (2, .int a), (3, .int k)], [.ref 542, .int k], h', n, 0, 0)) (by with_unfolding_all rfl) ?_
    refine mc_getr hmi H' (k := 542) (c := 560) (pc' := 16) rfl rfl rfl rfl rfl ?_
    refine mc_cx hmi 1 (F' := (17, [(0, .ref 542), (1, .int z), (2, .int a), (3, .int k)], [.int a, .ref 560, .int k], h', n, 0, 0)) (by with_unfolding_all rfl) ?_
    refine mc_iald hmi H' (k := 560) (i := (j : Int)) (pc' := 18) rfl rfl rfl ha (by omega) (by omega) rfl (fun y1 e2 r3 r4 => ?_)
    rw [e2] at r3 r4
    refine mc_ci hmi (c := .ge) (tg := 41) (pc' := 21) rfl rfl rfl rfl e2 (fun (q5 : ab_ri h' 560 ((j : Int)) ≤ k.toInt) => ?_) (fun (q5 : k.toInt < ab_ri h' 560 ((j : Int))) => ?_)
    · refine mc_lvs (lv' := [(0, .ref 542), (1, .int z), (2, .int a)]) (by simp) ?_
      exact kk h' z H' hfr (by omega) hz0
    · exact absurd q5 (by omega)
  | succ c ih =>
    intro h' z k H' hfr hk0 hk hz0 hz
    have hgP : ab_ri h' 560 (j : Int) = ab_ri h 560 (j : Int) := ab_ri_of (hfr 560 _ (by decide) (by decide))
    have hgT : ab_ri h' 561 (j : Int) = ab_ri h 561 (j : Int) := ab_ri_of (hfr 561 _ (by decide) (by decide))
    refine mc_cx hmi 2 (F' := (13, [(0, .ref 542), (1, .int z), (2, .int a), (3, .int k)], [.ref 542, .int k], h', n, 0, 0)) (by with_unfolding_all rfl) ?_
    refine mc_getr hmi H' (k := 542) (c := 560) (pc' := 16) rfl rfl rfl rfl rfl ?_
    refine mc_cx hmi 1 (F' := (17, [(0, .ref 542), (1, .int z), (2, .int a), (3, .int k)], [.int a, .ref 560, .int k], h', n, 0, 0)) (by with_unfolding_all rfl) ?_
    refine mc_iald hmi H' (k := 560) (i := (j : Int)) (pc' := 18) rfl rfl rfl ha (by omega) (by omega) rfl (fun y6 e7 r8 r9 => ?_)
    rw [e7] at r8 r9
    refine mc_ci hmi (c := .ge) (tg := 41) (pc' := 21) rfl rfl rfl rfl e7 (fun (q10 : ab_ri h' 560 ((j : Int)) ≤ k.toInt) => ?_) (fun (q10 : k.toInt < ab_ri h' 560 ((j : Int))) => ?_)
    · exact absurd q10 (by omega)
    · refine mc_cx hmi 1 (F' := (22, [(0, .ref 542), (1, .int z), (2, .int a), (3, .int k)], [.ref 542], h', n, 0, 0)) (by with_unfolding_all rfl) ?_
      refine mc_getr hmi H' (k := 542) (c := 550) (pc' := 25) rfl rfl rfl rfl rfl ?_
      refine mc_cx hmi 4 (F' := (31, [(0, .ref 542), (1, .int z), (2, .int a), (3, .int k)], [.int a, .int ((Int16.ofInt 288).toInt32 + z), .ref 550], h', n, 0, 0)) (by with_unfolding_all rfl) ?_
      have e11 : ((Int16.ofInt 288).toInt32 + z).toInt = 288 + z.toInt := mc_add (by decide) rfl (by omega) (by omega)
      refine mc_iast hmi H' (k := 550) (i := (288 + z.toInt)) (pc' := 32) rfl rfl rfl e11 (by omega) (by omega) (by rw [ha]; omega) (by rw [ha]; omega) rfl (fun h12 H13 w14 => ?_)
      refine mc_cx hmi 3 (F' := (11, [(3, .int (k + Int32.ofInt 1)), (1, .int (z + Int32.ofInt 1)), (0, .ref 542), (2, .int a)], [], h12, n, 0, 0)) (by with_unfolding_all rfl) ?_
      have e15 : (z + Int32.ofInt 1).toInt = z.toInt + 1 := mc_add rfl (by decide) (by omega) (by omega)
      have e16 : (k + Int32.ofInt 1).toInt = k.toInt + 1 := mc_add rfl (by decide) (by omega) (by omega)
      refine mc_lvs (lv' := [(0, .ref 542), (1, .int (z + Int32.ofInt 1)), (2, .int a), (3, .int (k + Int32.ofInt 1))]) (by simp) ?_
      exact ih h12 (z + Int32.ofInt 1) (k + Int32.ofInt 1) H13 (fun k' i' p1 p2 => by rw [w14, if_neg (fun q => p2 q.1)]; exact hfr k' i' p1 p2) (by rw [e16]; omega) (by rw [e16]; omega) (by rw [e15]; omega) (by rw [e15]; omega)
set_option maxRecDepth 100000 in
theorem ly_2 {l : Launch} {G : ax_T} {d : Nat} {Q : Option Value → ax_H → Nat → Prop} {h : ax_H} {n : Nat} (hd : 1 ≤ d) (a t : Int32) {j : Nat} (ha : a.toInt = (j : Int)) (hj : j ≤ 13) (ht0 : 0 ≤ t.toInt) (ht1 : t.toInt ≤ 28) (hnn : 0 ≤ sm (fS h) j) {tot : Int} (htot : tot ≤ 24) (kk : ∀ (h' : ax_H) (z : Int32), mc_HW h' n → (∀ (k' : Nat) (i' : Int), k' ≠ 549 → k' ≠ 550 → ab_rd h' k' i' = ab_rd h k' i') → z.toInt + (if t.toInt = 0 then 0 else 1) + sm (fS h) j = tot → 0 ≤ z.toInt → mc_R l G mt_X11_layRow d Q (95, [(0, .ref 542), (1, .int z), (2, .int a), (3, .int t)], [], h', n, 0, 0)) : ∀ (c : Nat) (h' : ax_H) (z k : Int32), mc_HW h' n → (∀ (k' : Nat) (i' : Int), k' ≠ 549 → k' ≠ 550 → ab_rd h' k' i' = ab_rd h k' i') → 1 ≤ k.toInt → k.toInt + (c : Int) = (if t.toInt = 0 then 1 else sg t.toInt) → 0 ≤ z.toInt → z.toInt + (c : Int) + (if t.toInt = 0 then 0 else 1) + sm (fS h) j = tot → mc_R l G mt_X11_layRow d Q (51, [(0, .ref 542), (1, .int z), (2, .int a), (3, .int t), (4, .int k)], [], h', n, 0, 0) := by
  have hmi : mt_X11_layRow ∈ mt_prog := List.mem_of_getElem? mi_X11_layRow
  have hsg : (t.toInt = 0 ∧ sg t.toInt = 0 ∧ (if t.toInt = 0 then 0 else 1) = (0 : Int)) ∨ (1 ≤ t.toInt ∧ 2 ≤ sg t.toInt ∧ sg t.toInt ≤ 3 ∧ (if t.toInt = 0 then 0 else 1) = (1 : Int)) := by
    by_cases e : t.toInt = 0
    · left; refine ⟨e, ?_, by rw [if_pos e]⟩; unfold sg; rw [if_pos e]
    · right; refine ⟨by omega, ?_, (sg_b _).2, by rw [if_neg e]⟩; unfold sg; rw [if_neg e]; split <;> omega
  have hmx : (if t.toInt = 0 then (1 : Int) else sg t.toInt) = (if t.toInt = 0 then 1 else sg t.toInt) := rfl
  intro c
  induction c with
  | zero =>
    intro h' z k H' hfr hk0 hk hz0 hz
    have hks : k.toInt + ((0 : Nat) : Int) = 1 ∧ t.toInt = 0 ∨ 1 ≤ t.toInt ∧ k.toInt + ((0 : Nat) : Int) = sg t.toInt := by
      by_cases e : t.toInt = 0
      · rw [if_pos e] at hk; exact Or.inl ⟨hk, e⟩
      · rw [if_neg e] at hk; exact Or.inr ⟨by omega, hk⟩
    refine mc_cx hmi 2 (F' := (54, [(0, .ref 542), (1, .int z), (2, .int a), (3, .int t), (4, .int k)], [.int t, .int k], h', n, 0, 0)) (by with_unfolding_all rfl) ?_
    refine mc_callP hmi (en := (54, .invokestatic 194, 3, (3, 176, 0, 0), [1385, 1384])) rfl (q := (mt_X11_signsOf, [.int t], [.int k])) (by with_unfolding_all rfl) ⟨rfl, rfl⟩ (pc' := 57) rfl (mc_signsOf hd t) (fun y17 e18 => ?_)
    refine mc_ci hmi (c := .ge) (tg := 95) (pc' := 60) rfl rfl rfl rfl e18 (fun (q19 : sg t.toInt ≤ k.toInt) => ?_) (fun (q19 : k.toInt < sg t.toInt) => ?_)
    · refine mc_lvs (lv' := [(0, .ref 542), (1, .int z), (2, .int a), (3, .int t)]) (by simp) ?_
      exact kk h' z H' hfr (by omega) hz0
    · exact absurd q19 (by omega)
  | succ c ih =>
    intro h' z k H' hfr hk0 hk hz0 hz
    have hks : k.toInt + ((c + 1 : Nat) : Int) = 1 ∧ t.toInt = 0 ∨ 1 ≤ t.toInt ∧ k.toInt + ((c + 1 : Nat) : Int) = sg t.toInt := by
      by_cases e : t.toInt = 0
      · rw [if_pos e] at hk; exact Or.inl ⟨hk, e⟩
      · rw [if_neg e] at hk; exact Or.inr ⟨by omega, hk⟩
    refine mc_cx hmi 2 (F' := (54, [(0, .ref 542), (1, .int z), (2, .int a), (3, .int t), (4, .int k)], [.int t, .int k], h', n, 0, 0)) (by with_unfolding_all rfl) ?_
    refine mc_callP hmi (en := (54, .invokestatic 194, 3, (3, 176, 0, 0), [1385, 1384])) rfl (q := (mt_X11_signsOf, [.int t], [.int k])) (by with_unfolding_all rfl) ⟨rfl, rfl⟩ (pc' := 57) rfl (mc_signsOf hd t) (fun y20 e21 => ?_)
    refine mc_ci hmi (c := .ge) (tg := 95) (pc' := 60) rfl rfl rfl rfl e21 (fun (q22 : sg t.toInt ≤ k.toInt) => ?_) (fun (q22 : k.toInt < sg t.toInt) => ?_)
    · exact absurd q22 (by omega)
    · refine mc_cx hmi 1 (F' := (61, [(0, .ref 542), (1, .int z), (2, .int a), (3, .int t), (4, .int k)], [.ref 542], h', n, 0, 0)) (by with_unfolding_all rfl) ?_
      refine mc_getr hmi H' (k := 542) (c := 550) (pc' := 64) rfl rfl rfl rfl rfl ?_
      refine mc_cx hmi 5 (F' := (72, [(0, .ref 542), (1, .int z), (2, .int a), (3, .int t), (4, .int k)], [.int (Int8.ofInt 15).toInt32, .int t, .int ((Int16.ofInt 288).toInt32 + z), .ref 550], h', n, 0, 0)) (by with_unfolding_all rfl) ?_
      have e23 : ((Int16.ofInt 288).toInt32 + z).toInt = 288 + z.toInt := mc_add (by decide) rfl (by omega) (by omega)
      have key : ∀ u : Int32, 0 ≤ u.toInt → u.toInt ≤ 13 → mc_R l G mt_X11_layRow d Q (85, [(0, .ref 542), (1, .int z), (2, .int a), (3, .int t), (4, .int k)], [.int u, .int ((Int16.ofInt 288).toInt32 + z), .ref 550], h', n, 0, 0) := by
        intro u hu0 hu1
        have b24 := Int32.le_toInt (u)
        have b25 := Int32.toInt_lt (u)
        refine mc_iast hmi H' (k := 550) (i := (288 + z.toInt)) (pc' := 86) rfl rfl rfl e23 (by omega) (by omega) (by rw [show (u).toInt = u.toInt from rfl]; omega) (by rw [show (u).toInt = u.toInt from rfl]; omega) rfl (fun h26 H27 w28 => ?_)
        refine mc_cx hmi 3 (F' := (51, [(4, .int (k + Int32.ofInt 1)), (1, .int (z + Int32.ofInt 1)), (0, .ref 542), (2, .int a), (3, .int t)], [], h26, n, 0, 0)) (by with_unfolding_all rfl) ?_
        have e29 : (z + Int32.ofInt 1).toInt = z.toInt + 1 := mc_add rfl (by decide) (by omega) (by omega)
        have e30 : (k + Int32.ofInt 1).toInt = k.toInt + 1 := mc_add rfl (by decide) (by omega) (by omega)
        refine mc_lvs (lv' := [(0, .ref 542), (1, .int (z + Int32.ofInt 1)), (2, .int a), (3, .int t), (4, .int (k + Int32.ofInt 1))]) (by simp) ?_
        exact ih h26 (z + Int32.ofInt 1) (k + Int32.ofInt 1) H27 (fun k' i' p1 p2 => by rw [w28, if_neg (fun q => p2 q.1)]; exact hfr k' i' p1 p2) (by rw [e30]; omega) (by rw [e30]; omega) (by rw [e29]; omega) (by rw [e29]; omega)
      refine mc_ci hmi (c := .ge) (tg := 81) (pc' := 75) rfl rfl rfl rfl (by decide) (fun (q31 : 15 ≤ t.toInt) => ?_) (fun (q31 : t.toInt < 15) => ?_)
      · refine mc_cx hmi 3 (F' := (85, [(0, .ref 542), (1, .int z), (2, .int a), (3, .int t), (4, .int k)], [.int (t - (Int8.ofInt 15).toInt32), .int ((Int16.ofInt 288).toInt32 + z), .ref 550], h', n, 0, 0)) (by with_unfolding_all rfl) ?_
        have e32 : (t - (Int8.ofInt 15).toInt32).toInt = t.toInt - 15 := mc_sub rfl (by decide) (by omega) (by omega)
        exact key _ (by rw [e32]; omega) (by rw [e32]; omega)
      · refine mc_cx hmi 4 (F' := (85, [(0, .ref 542), (1, .int z), (2, .int a), (3, .int t), (4, .int k)], [.int (t - (Int32.ofInt 1)), .int ((Int16.ofInt 288).toInt32 + z), .ref 550], h', n, 0, 0)) (by with_unfolding_all rfl) ?_
        have e33 : (t - (Int32.ofInt 1)).toInt = t.toInt - 1 := mc_sub rfl (by decide) (by omega) (by omega)
        exact key _ (by rw [e33]; omega) (by rw [e33]; omega)
set_option maxRecDepth 100000 in
theorem ly_3 {l : Launch} {G : ax_T} {d : Nat} {Q : Option Value → ax_H → Nat → Prop} {h : ax_H} {n : Nat} (hd : 1 ≤ d) (hP : ∀ i : Nat, i < 14 → 0 ≤ ab_ri h 560 (i : Int)) {tot : Int} (htot : tot ≤ 24) (kk : ∀ (h' : ax_H) (z : Int32), mc_HW h' n → (∀ (k' : Nat) (i' : Int), k' ≠ 549 → k' ≠ 550 → ab_rd h' k' i' = ab_rd h k' i') → z.toInt = tot → 0 ≤ z.toInt → mc_R l G mt_X11_layRow d Q (119, [(0, .ref 542), (1, .int z)], [], h', n, 0, 0)) : ∀ (j : Nat) (h' : ax_H) (z a : Int32), mc_HW h' n → (∀ (k' : Nat) (i' : Int), k' ≠ 549 → k' ≠ 550 → ab_rd h' k' i' = ab_rd h k' i') → a.toInt + 1 = (j : Int) → j ≤ 14 → 0 ≤ z.toInt → z.toInt + sm (fS h) j = tot → mc_R l G mt_X11_layRow d Q (5, [(0, .ref 542), (1, .int z), (2, .int a)], [], h', n, 0, 0) := by
  have hmi : mt_X11_layRow ∈ mt_prog := List.mem_of_getElem? mi_X11_layRow
  intro j
  induction j with
  | zero =>
    intro h' z a H' hfr ha hj hz0 hz
    refine mc_cx hmi 1 (F' := (6, [(0, .ref 542), (1, .int z), (2, .int a)], [.int a], h', n, 0, 0)) (by with_unfolding_all rfl) ?_
    refine mc_cz hmi (c := .lt) (tg := 119) (pc' := 9) rfl rfl rfl rfl (fun (q34 : a.toInt < 0) => ?_) (fun (q34 : 0 ≤ a.toInt) => ?_)
    · refine mc_lvs (lv' := [(0, .ref 542), (1, .int z)]) (by simp) ?_
      have hz' : z.toInt + 0 = tot := hz
      exact kk h' z H' hfr (by omega) hz0
    · exact absurd q34 (by omega)
  | succ j ih =>
    intro h' z a H' hfr ha hj hz0 hz
    refine mc_cx hmi 1 (F' := (6, [(0, .ref 542), (1, .int z), (2, .int a)], [.int a], h', n, 0, 0)) (by with_unfolding_all rfl) ?_
    refine mc_cz hmi (c := .lt) (tg := 119) (pc' := 9) rfl rfl rfl rfl (fun (q35 : a.toInt < 0) => ?_) (fun (q35 : 0 ≤ a.toInt) => ?_)
    · exact absurd q35 (by omega)
    · have ea : a.toInt = (j : Int) := by omega
      have hnn : 0 ≤ sm (fS h) j := sm_nn j (fun i hi => by have := hP i (by omega); have := sg_b (ab_ri h 561 (i : Int)); unfold fS; omega)
      have hz' : z.toInt + (sm (fS h) j + fS h j) = tot := hz
      have hPj := hP j (by omega)
      have hfj : fS h j = ab_ri h 560 (j : Int) + sg (ab_ri h 561 (j : Int)) := rfl
      refine mc_cx hmi 2 (F' := (11, [(3, .int (Int32.ofInt 0)), (0, .ref 542), (1, .int z), (2, .int a)], [], h', n, 0, 0)) (by with_unfolding_all rfl) ?_
      refine mc_lvs (lv' := [(0, .ref 542), (1, .int z), (2, .int a), (3, .int (Int32.ofInt 0))]) (by simp) ?_
      refine ly_1 (h := h) a ea (by omega) hnn htot (fun h2 z2 H2 f2 e2 n2 => ?_) (ab_ri h 560 (j : Int)).toNat h' z (Int32.ofInt 0) H' hfr (by decide) (by show 0 + _ = _; omega) hz0 (by omega)
      have hgT : ab_ri h2 561 (j : Int) = ab_ri h 561 (j : Int) := ab_ri_of (f2 561 _ (by decide) (by decide))
      refine mc_cx hmi 1 (F' := (42, [(0, .ref 542), (1, .int z2), (2, .int a)], [.ref 542], h2, n, 0, 0)) (by with_unfolding_all rfl) ?_
      refine mc_getr hmi H2 (k := 542) (c := 561) (pc' := 45) rfl rfl rfl rfl rfl ?_
      refine mc_cx hmi 1 (F' := (46, [(0, .ref 542), (1, .int z2), (2, .int a)], [.int a, .ref 561], h2, n, 0, 0)) (by with_unfolding_all rfl) ?_
      refine mc_iald hmi H2 (k := 561) (i := (j : Int)) (pc' := 47) rfl rfl rfl ea (by omega) (by omega) rfl (fun y36 e37 r38 r39 => ?_)
      rw [e37] at r38 r39
      refine mc_cx hmi 3 (F' := (51, [(4, .int (Int32.ofInt 1)), (3, .int y36), (0, .ref 542), (1, .int z2), (2, .int a)], [], h2, n, 0, 0)) (by with_unfolding_all rfl) ?_
      refine mc_lvs (lv' := [(0, .ref 542), (1, .int z2), (2, .int a), (3, .int y36), (4, .int (Int32.ofInt 1))]) (by simp) ?_
      rw [hgT] at e37 r38 r39
      refine ly_2 (h := h) hd a y36 ea (by omega) (by omega) (by omega) hnn htot (fun h3 z3 H3 f3 e3 n3 => ?_) (if y36.toInt = 0 then 0 else sg y36.toInt - 1).toNat h2 z2 (Int32.ofInt 1) H2 f2 (by decide) ?_ n2 ?_
      · have hn0 : 0 ≤ (if y36.toInt = 0 then (0 : Int) else 1) := by split <;> decide
        refine mc_cx hmi 1 (F' := (96, [(0, .ref 542), (1, .int z3), (2, .int a), (3, .int y36)], [.int y36], h3, n, 0, 0)) (by with_unfolding_all rfl) ?_
        refine mc_cz hmi (c := .le) (tg := 113) (pc' := 99) rfl rfl rfl rfl (fun (q40 : y36.toInt ≤ 0) => ?_) (fun (q40 : 0 < y36.toInt) => ?_)
        · rw [if_pos (show y36.toInt = 0 by omega)] at e3
          refine mc_cx hmi 2 (F' := (5, [(2, .int (a + Int32.ofInt (-1))), (0, .ref 542), (1, .int z3), (3, .int y36)], [], h3, n, 0, 0)) (by with_unfolding_all rfl) ?_
          have e41 : (a + Int32.ofInt (-1)).toInt = (j : Int) + (-1) := mc_add ea (by decide) (by omega) (by omega)
          generalize (a + Int32.ofInt (-1)) = z42 at e41 ⊢
          refine mc_lvs (lv' := [(0, .ref 542), (1, .int z3), (2, .int z42)]) (by simp) ?_
          exact ih h3 z3 z42 H3 f3 (by omega) (by omega) n3 (by omega)
        · rw [if_neg (show ¬ y36.toInt = 0 by omega)] at e3
          refine mc_cx hmi 1 (F' := (100, [(0, .ref 542), (1, .int z3), (2, .int a), (3, .int y36)], [.ref 542], h3, n, 0, 0)) (by with_unfolding_all rfl) ?_
          refine mc_getr hmi H3 (k := 542) (c := 550) (pc' := 103) rfl rfl rfl rfl rfl ?_
          refine mc_cx hmi 4 (F' := (109, [(0, .ref 542), (1, .int z3), (2, .int a), (3, .int y36)], [.int a, .int ((Int16.ofInt 288).toInt32 + z3), .ref 550], h3, n, 0, 0)) (by with_unfolding_all rfl) ?_
          have e43 : ((Int16.ofInt 288).toInt32 + z3).toInt = 288 + z3.toInt := mc_add (by decide) rfl (by omega) (by omega)
          refine mc_iast hmi H3 (k := 550) (i := (288 + z3.toInt)) (pc' := 110) rfl rfl rfl e43 (by omega) (by omega) (by rw [ea]; omega) (by rw [ea]; omega) rfl (fun h44 H45 w46 => ?_)
          refine mc_cx hmi 3 (F' := (5, [(2, .int (a + Int32.ofInt (-1))), (1, .int (z3 + Int32.ofInt 1)), (0, .ref 542), (3, .int y36)], [], h44, n, 0, 0)) (by with_unfolding_all rfl) ?_
          have e47 : (z3 + Int32.ofInt 1).toInt = z3.toInt + 1 := mc_add rfl (by decide) (by omega) (by omega)
          have e48 : (a + Int32.ofInt (-1)).toInt = (j : Int) + (-1) := mc_add ea (by decide) (by omega) (by omega)
          generalize (a + Int32.ofInt (-1)) = z49 at e48 ⊢
          refine mc_lvs (lv' := [(0, .ref 542), (1, .int (z3 + Int32.ofInt 1)), (2, .int z49)]) (by simp) ?_
          exact ih h44 (z3 + Int32.ofInt 1) z49 H45 (fun k' i' p1 p2 => by rw [w46, if_neg (fun q => p2 q.1)]; exact f3 k' i' p1 p2) (by omega) (by omega) (by rw [e47]; omega) (by rw [e47]; omega)
      · have hs := sg_b y36.toInt; have hs2 : y36.toInt ≠ 0 → 2 ≤ sg y36.toInt := fun q => by unfold sg; rw [if_neg q]; split <;> omega
        by_cases q : y36.toInt = 0
        · rw [if_pos q, if_pos q]; decide
        · rw [if_neg q, if_neg q]; have := hs2 q; show 1 + _ = _; omega
      · have hs := sg_b y36.toInt; have hs2 : y36.toInt ≠ 0 → 2 ≤ sg y36.toInt := fun q => by unfold sg; rw [if_neg q]; split <;> omega
        rw [← e37] at e2
        by_cases q : y36.toInt = 0
        · rw [if_pos q, if_pos q]; have : sg y36.toInt = 0 := by unfold sg; rw [if_pos q]
          omega
        · rw [if_neg q, if_neg q]; have := hs2 q; omega
set_option maxRecDepth 100000 in
theorem mc_layRow {l : Launch} {G : ax_T} {d : Nat} {h : ax_H} {n : Nat} (hd : 2 ≤ d) (H : mc_HW h n) (hP : ∀ i : Nat, i < 14 → 0 ≤ ab_ri h 560 (i : Int)) (ht : sm (fS h) 14 ≤ 24) : mc_M l G d mt_X11_layRow [.ref 542] h n (fun r' h' n' => n' = n ∧ r' = none ∧ mc_HW h' n ∧ (∀ (k' : Nat) (i' : Int), k' ≠ 549 → k' ≠ 550 → ab_rd h' k' i' = ab_rd h k' i')) := by
  obtain ⟨d, rfl⟩ : ∃ e, d = e + 1 := ⟨d - 1, by omega⟩
  have hmi : mt_X11_layRow ∈ mt_prog := List.mem_of_getElem? mi_X11_layRow
  refine mc_to hmi rfl ?_
  show mc_R _ _ _ _ _ (0, [(0, .ref 542)], [], h, n, 0, 0)
  refine mc_cx hmi 4 (F' := (5, [(2, .int (Int8.ofInt 13).toInt32), (1, .int (Int32.ofInt 0)), (0, .ref 542)], [], h, n, 0, 0)) (by with_unfolding_all rfl) ?_
  refine mc_lvs (lv' := [(0, .ref 542), (1, .int (Int32.ofInt 0)), (2, .int (Int8.ofInt 13).toInt32)]) (by simp) ?_
  refine ly_3 (h := h) (by omega) hP ht (fun h2 z2 H2 f2 e2 n2 => ?_) 14 h (Int32.ofInt 0) (Int8.ofInt 13).toInt32 H (fun _ _ _ _ => rfl) (by decide) (Nat.le_refl _) (by decide) (by show 0 + _ = _; omega)
  refine mc_cx hmi 1 (F' := (120, [(0, .ref 542), (1, .int z2)], [.ref 542], h2, n, 0, 0)) (by with_unfolding_all rfl) ?_
  refine mc_getr hmi H2 (k := 542) (c := 549) (pc' := 123) rfl rfl rfl rfl rfl ?_
  refine mc_cx hmi 2 (F' := (126, [(0, .ref 542), (1, .int z2)], [.int z2, .int (Int8.ofInt 12).toInt32, .ref 549], h2, n, 0, 0)) (by with_unfolding_all rfl) ?_
  have b50 := Int32.le_toInt (z2)
  have b51 := Int32.toInt_lt (z2)
  refine mc_iast hmi H2 (k := 549) (i := 12) (pc' := 127) rfl rfl rfl (by decide) (by omega) (by omega) (by rw [show (z2).toInt = z2.toInt from rfl]; omega) (by rw [show (z2).toInt = z2.toInt from rfl]; omega) rfl (fun h52 H53 w54 => ?_)
  exact mc_ret hmi rfl rfl rfl ⟨rfl, rfl, H53, fun k' i' p1 p2 => by rw [w54, if_neg (fun q => p1 q.1)]; exact f2 k' i' p1 p2⟩
set_option maxRecDepth 100000 in
theorem mc_noteOne {l : Launch} {G : ax_T} {d : Nat} {h : ax_H} {n : Nat} (hd : 3 ≤ d) (H : mc_HW h n) (w u : Int32) (hu : u.toInt ≤ 24) (hP : ∀ i : Nat, i < 14 → 0 ≤ ab_ri h 560 (i : Int)) (ht : sm (fS h) 14 ≤ 24) (hf : ab_ri h 542 35 ≤ 4999) : mc_M l G d mt_X11_noteOne [.ref 542, .int w, .int u] h n (fun r' h' n' => n' = n ∧ r' = none ∧ mc_HW h' n ∧ (∀ (k' : Nat) (i' : Int), k' ≠ 549 → k' ≠ 550 → (k' = 542 → i' ≠ 35) → (k' = 542 → i' ≠ 36) → ab_rd h' k' i' = ab_rd h k' i')) := by
  obtain ⟨d, rfl⟩ : ∃ e, d = e + 1 := ⟨d - 1, by omega⟩
  have hmi : mt_X11_noteOne ∈ mt_prog := List.mem_of_getElem? mi_X11_noteOne
  refine mc_to hmi rfl ?_
  show mc_R _ _ _ _ _ (0, [(0, .ref 542), (1, .int w), (2, .int u)], [], h, n, 0, 0)
  have k37 : ∀ h1 : ax_H, mc_HW h1 n → (∀ (k' : Nat) (i' : Int), k' ≠ 549 → k' ≠ 550 → (k' = 542 → i' ≠ 35) → (k' = 542 → i' ≠ 36) → ab_rd h1 k' i' = ab_rd h k' i') → ab_ri h1 542 35 = ab_ri h 542 35 → mc_R l G mt_X11_noteOne d (fun r' h' n' => n' = n ∧ r' = none ∧ mc_HW h' n ∧ (∀ (k' : Nat) (i' : Int), k' ≠ 549 → k' ≠ 550 → (k' = 542 → i' ≠ 35) → (k' = 542 → i' ≠ 36) → ab_rd h' k' i' = ab_rd h k' i')) (37, [(0, .ref 542), (1, .int w), (2, .int u)], [], h1, n, 0, 0) := by
    intro h1 H1 f1 e1
    refine mc_cx hmi 2 (F' := (39, [(0, .ref 542), (1, .int w), (2, .int u)], [.ref 542, .ref 542], h1, n, 0, 0)) (by with_unfolding_all rfl) ?_
    refine mc_geti hmi H1 (k := 542) (j := 35) (pc' := 42) rfl rfl rfl rfl (fun y55 (e56 : y55.toInt = ab_ri h1 542 35) r57 r58 => ?_)
    rw [e56] at r57 r58
    refine mc_cx hmi 2 (F' := (44, [(0, .ref 542), (1, .int w), (2, .int u)], [.int (y55 + (Int32.ofInt 1)), .ref 542], h1, n, 0, 0)) (by with_unfolding_all rfl) ?_
    have e59 : (y55 + (Int32.ofInt 1)).toInt = ab_ri h1 542 35 + 1 := mc_add e56 (by decide) (by omega) (by omega)
    refine mc_puti hmi H1 (k := 542) (j := 35) (pc' := 47) rfl rfl rfl rfl (by rw [e59]; omega) (by rw [e59]; omega) rfl (fun h60 H61 w62 => ?_)
    exact mc_ret hmi rfl rfl rfl ⟨rfl, rfl, H61, fun k' i' p1 p2 p3 p4 => by rw [w62, if_neg (fun q => p3 q.1 q.2)]; exact f1 k' i' p1 p2 p3 p4⟩
  have k28 : 0 < u.toInt → mc_R l G mt_X11_noteOne d (fun r' h' n' => n' = n ∧ r' = none ∧ mc_HW h' n ∧ (∀ (k' : Nat) (i' : Int), k' ≠ 549 → k' ≠ 550 → (k' = 542 → i' ≠ 35) → (k' = 542 → i' ≠ 36) → ab_rd h' k' i' = ab_rd h k' i')) (28, [(0, .ref 542), (1, .int w), (2, .int u)], [], h, n, 0, 0) := by
    intro hu0
    refine mc_cx hmi 2 (F' := (30, [(0, .ref 542), (1, .int w), (2, .int u)], [.int u, .ref 542], h, n, 0, 0)) (by with_unfolding_all rfl) ?_
    refine mc_puti hmi H (k := 542) (j := 36) (pc' := 33) rfl rfl rfl rfl (by rw [show (u).toInt = u.toInt from rfl]; omega) (by rw [show (u).toInt = u.toInt from rfl]; omega) rfl (fun h63 H64 w65 => ?_)
    refine mc_cx hmi 1 (F' := (34, [(0, .ref 542), (1, .int w), (2, .int u)], [.ref 542], h63, n, 0, 0)) (by with_unfolding_all rfl) ?_
    have g560 : ∀ i : Int, ab_ri h63 560 i = ab_ri h 560 i := fun i => by rw [mc_ri w65, if_neg (fun q => absurd q.1 (by decide))]
    have g561 : ∀ i : Int, ab_ri h63 561 i = ab_ri h 561 i := fun i => by rw [mc_ri w65, if_neg (fun q => absurd q.1 (by decide))]
    have gf : fS h63 = fS h := funext fun i => by unfold fS; rw [g560, g561]
    refine mc_call hmi (en := (34, .invokevirtual 207, 3, (3, 184, 11, 0), [1397, 91, 1395])) rfl (q := (mt_X11_layRow, [.ref 542], [])) (mc_inv H64 (as := []) (rest := []) rfl (by with_unfolding_all rfl) rfl rfl rfl) ⟨rfl, rfl⟩ (pc' := 37) rfl (mc_mono (mc_layRow (by omega) H64 (fun i hi => by rw [g560]; exact hP i hi) (by rw [gf]; exact ht)) ?_)
    intro r2 h2 n2 P2
    obtain ⟨e1, e2, H2, f2⟩ := P2
    rw [e1, e2]
    show mc_R _ _ _ _ _ (37, [(0, .ref 542), (1, .int w), (2, .int u)], [], h2, n, 0, 0)
    exact k37 h2 H2 (fun k' i' p1 p2 p3 p4 => by rw [f2 k' i' p1 p2, w65, if_neg (fun q => p4 q.1 q.2)]) (by rw [ab_ri_of (f2 542 35 (by decide) (by decide)), mc_ri w65, if_neg (fun q => absurd q.2 (by decide))])
  refine mc_cx hmi 1 (F' := (1, [(0, .ref 542), (1, .int w), (2, .int u)], [.int u], h, n, 0, 0)) (by with_unfolding_all rfl) ?_
  refine mc_cz hmi (c := .le) (tg := 47) (pc' := 4) rfl rfl rfl rfl (fun (q66 : u.toInt ≤ 0) => ?_) (fun (q66 : 0 < u.toInt) => ?_)
  · exact mc_ret hmi rfl rfl rfl ⟨rfl, rfl, H, fun _ _ _ _ _ _ => rfl⟩
  · have hu0 : 0 < u.toInt := q66
    refine mc_cx hmi 2 (F' := (6, [(0, .ref 542), (1, .int w), (2, .int u)], [.int (Int32.ofInt (-1)), .int w], h, n, 0, 0)) (by with_unfolding_all rfl) ?_
    refine mc_ci hmi (c := .ne) (tg := 20) (pc' := 9) rfl rfl rfl rfl (by decide) (fun (q67 : w.toInt ≠ (-1)) => ?_) (fun (q67 : w.toInt = (-1)) => ?_)
    · refine mc_cx hmi 1 (F' := (21, [(0, .ref 542), (1, .int w), (2, .int u)], [.ref 542], h, n, 0, 0)) (by with_unfolding_all rfl) ?_
      refine mc_geti hmi H (k := 542) (j := 35) (pc' := 24) rfl rfl rfl rfl (fun y68 (e69 : y68.toInt = ab_ri h 542 35) r70 r71 => ?_)
      rw [e69] at r70 r71
      refine mc_cx hmi 1 (F' := (25, [(0, .ref 542), (1, .int w), (2, .int u)], [.int w, .int y68], h, n, 0, 0)) (by with_unfolding_all rfl) ?_
      refine mc_ci hmi (c := .ne) (tg := 37) (pc' := 28) rfl rfl rfl e69 rfl (fun (q72 : ab_ri h 542 35 ≠ w.toInt) => ?_) (fun (q72 : ab_ri h 542 35 = w.toInt) => ?_)
      · exact k37 h H (fun _ _ _ _ _ _ => rfl) rfl
      · exact k28 hu0
    · refine mc_cx hmi 2 (F' := (11, [(0, .ref 542), (1, .int w), (2, .int u)], [.ref 542, .int u], h, n, 0, 0)) (by with_unfolding_all rfl) ?_
      refine mc_geti hmi H (k := 542) (j := 36) (pc' := 14) rfl rfl rfl rfl (fun y73 (e74 : y73.toInt = ab_ri h 542 36) r75 r76 => ?_)
      rw [e74] at r75 r76
      refine mc_ci hmi (c := .ge) (tg := 37) (pc' := 17) rfl rfl rfl rfl e74 (fun (q77 : ab_ri h 542 36 ≤ u.toInt) => ?_) (fun (q77 : u.toInt < ab_ri h 542 36) => ?_)
      · exact k37 h H (fun _ _ _ _ _ _ => rfl) rfl
      · refine mc_cx hmi 1 (F' := (28, [(0, .ref 542), (1, .int w), (2, .int u)], [], h, n, 0, 0)) (by with_unfolding_all rfl) ?_
        exact k28 hu0
set_option maxRecDepth 100000 in
theorem mc_open {l : Launch} {G : ax_T} {d : Nat} {h : ax_H} {n : Nat} (hd : 1 ≤ d) (H : mc_HW h n) (k a : Int32) (hk0 : 0 ≤ k.toInt) (hk1 : k.toInt ≤ 5) {j : Nat} (hj : j ≤ 13) (ha : a.toInt = (j : Int)) : mc_M l G d mt_X11_open [.ref 542, .int k, .int a] h n (fun r' h' n' => n' = n ∧ r' = none ∧ mc_HW h' n ∧ NWf h h' j ∧ 0 ≤ ab_ri h' 560 (j : Int)) := by
  obtain ⟨d, rfl⟩ : ∃ e, d = e + 1 := ⟨d - 1, by omega⟩
  have hmi : mt_X11_open ∈ mt_prog := List.mem_of_getElem? mi_X11_open
  refine mc_to hmi rfl ?_
  show mc_R _ _ _ _ _ (0, [(0, .ref 542), (1, .int k), (2, .int a)], [], h, n, 0, 0)
  refine mc_cx hmi 1 (F' := (1, [(0, .ref 542), (1, .int k), (2, .int a)], [.ref 542], h, n, 0, 0)) (by with_unfolding_all rfl) ?_
  refine mc_getr hmi H (k := 542) (c := 560) (pc' := 4) rfl rfl rfl rfl rfl ?_
  refine mc_cx hmi 3 (F' := (7, [(0, .ref 542), (1, .int k), (2, .int a)], [.ref 542, .int a, .int a, .ref 560], h, n, 0, 0)) (by with_unfolding_all rfl) ?_
  refine mc_getr hmi H (k := 542) (c := 562) (pc' := 10) rfl rfl rfl rfl rfl ?_
  refine mc_cx hmi 1 (F' := (11, [(0, .ref 542), (1, .int k), (2, .int a)], [.int a, .ref 562, .int a, .int a, .ref 560], h, n, 0, 0)) (by with_unfolding_all rfl) ?_
  refine mc_iald hmi H (k := 562) (i := (j : Int)) (pc' := 12) rfl rfl rfl ha (by omega) (by omega) rfl (fun y78 e79 r80 r81 => ?_)
  rw [e79] at r80 r81
  have key : ∀ u : Int32, 0 ≤ u.toInt → u.toInt ≤ 9 → mc_R l G mt_X11_open d (fun r' h' n' => n' = n ∧ r' = none ∧ mc_HW h' n ∧ NWf h h' j ∧ 0 ≤ ab_ri h' 560 (j : Int)) (30, [(0, .ref 542), (1, .int k), (2, .int a)], [.int u, .int a, .ref 560], h, n, 0, 0) := by
    intro u hu0 hu1
    have b82 := Int32.le_toInt (u)
    have b83 := Int32.toInt_lt (u)
    refine mc_iast hmi H (k := 560) (i := (j : Int)) (pc' := 31) rfl rfl rfl ha (by omega) (by omega) (by rw [show (u).toInt = u.toInt from rfl]; omega) (by rw [show (u).toInt = u.toInt from rfl]; omega) rfl (fun h84 H85 w86 => ?_)
    refine mc_cx hmi 1 (F' := (32, [(0, .ref 542), (1, .int k), (2, .int a)], [.ref 542], h84, n, 0, 0)) (by with_unfolding_all rfl) ?_
    refine mc_getr hmi H85 (k := 542) (c := 561) (pc' := 35) rfl rfl rfl rfl rfl ?_
    refine mc_cx hmi 2 (F' := (37, [(0, .ref 542), (1, .int k), (2, .int a)], [.int (Int32.ofInt 0), .int a, .ref 561], h84, n, 0, 0)) (by with_unfolding_all rfl) ?_
    refine mc_iast hmi H85 (k := 561) (i := (j : Int)) (pc' := 38) rfl rfl rfl ha (by omega) (by omega) (by rw [show ((Int32.ofInt 0)).toInt = 0 from by decide]; omega) (by rw [show ((Int32.ofInt 0)).toInt = 0 from by decide]; omega) rfl (fun h87 H88 w89 => ?_)
    exact mc_ret hmi rfl rfl rfl ⟨rfl, rfl, H88, fun k' i' p1 p2 => by rw [w89, if_neg (fun q => p2 q.1 q.2), w86, if_neg (fun q => p1 q.1 q.2)], by rw [mc_ri w89, if_neg (fun q => absurd q.1 (by decide)), mc_ri w86, if_pos ⟨rfl, rfl⟩]; exact hu0⟩
  refine mc_ci hmi (c := .ge) (tg := 29) (pc' := 15) rfl rfl rfl ha e79 (fun (q90 : ab_ri h 562 ((j : Int)) ≤ (j : Int)) => ?_) (fun (q90 : (j : Int) < ab_ri h 562 ((j : Int))) => ?_)
  · refine mc_cx hmi 1 (F' := (30, [(0, .ref 542), (1, .int k), (2, .int a)], [.int (Int32.ofInt 0), .int a, .ref 560], h, n, 0, 0)) (by with_unfolding_all rfl) ?_
    exact key _ (by decide) (by decide)
  · refine mc_cx hmi 1 (F' := (16, [(0, .ref 542), (1, .int k), (2, .int a)], [.ref 542, .int a, .ref 560], h, n, 0, 0)) (by with_unfolding_all rfl) ?_
    refine mc_getr hmi H (k := 542) (c := 546) (pc' := 19) rfl rfl rfl rfl rfl ?_
    refine mc_cx hmi 5 (F' := (25, [(0, .ref 542), (1, .int k), (2, .int a)], [.int (((Int8.ofInt 14).toInt32 * k) + a), .ref 546, .int a, .ref 560], h, n, 0, 0)) (by with_unfolding_all rfl) ?_
    have e91 : ((Int8.ofInt 14).toInt32 * k).toInt = 14 * k.toInt := mc_mul (by decide) rfl (by omega) (by omega)
    have e92 : (((Int8.ofInt 14).toInt32 * k) + a).toInt = (14 * k.toInt) + (j : Int) := mc_add e91 ha (by omega) (by omega)
    refine mc_iald hmi H (k := 546) (i := ((14 * k.toInt) + (j : Int))) (pc' := 26) rfl rfl rfl e92 (by omega) (by omega) rfl (fun y93 e94 r95 r96 => ?_)
    rw [e94] at r95 r96
    refine mc_cx hmi 1 (F' := (30, [(0, .ref 542), (1, .int k), (2, .int a)], [.int y93, .int a, .ref 560], h, n, 0, 0)) (by with_unfolding_all rfl) ?_
    exact key _ (by rw [e94]; omega) (by rw [e94]; omega)
set_option maxRecDepth 100000 in
theorem mc_down {l : Launch} {G : ax_T} {d : Nat} {h : ax_H} {n : Nat} (hd : 2 ≤ d) (H : mc_HW h n) (k a f u : Int32) (hk0 : 0 ≤ k.toInt) (hk1 : k.toInt ≤ 5) {j : Nat} (hj : j + 1 ≤ 13) (ha : a.toInt = ((j + 1 : Nat) : Int)) (hu0 : 0 ≤ u.toInt) (hu1 : u.toInt ≤ 24) : mc_M l G d mt_X11_down [.ref 542, .int k, .int a, .int f, .int u] h n (fun r' h' n' => n' = n ∧ mc_HW h' n ∧ (∀ (k' : Nat) (i' : Int), (k' = 560 → i' ≠ (j : Int)) → (k' = 561 → i' ≠ (j : Int)) → (k' = 562 → i' ≠ (j : Int)) → (k' = 563 → i' ≠ (j : Int)) → (k' = 564 → i' ≠ (j : Int)) → ab_rd h' k' i' = ab_rd h k' i') ∧ 0 ≤ ab_ri h' 560 (j : Int) ∧ ab_ri h' 564 (j : Int) = u.toInt ∧ ∃ y : Int32, r' = some (.int y) ∧ y.toInt = (j : Int)) := by
  obtain ⟨d, rfl⟩ : ∃ e, d = e + 1 := ⟨d - 1, by omega⟩
  have hmi : mt_X11_down ∈ mt_prog := List.mem_of_getElem? mi_X11_down
  refine mc_to hmi rfl ?_
  show mc_R _ _ _ _ _ (0, [(0, .ref 542), (1, .int k), (2, .int a), (3, .int f), (4, .int u)], [], h, n, 0, 0)
  have ea : (a - Int32.ofInt 1).toInt = (j : Int) := by rw [mc_sub ha (by decide : (Int32.ofInt 1).toInt = 1) (by omega) (by omega)]; omega
  refine mc_cx hmi 1 (F' := (1, [(0, .ref 542), (1, .int k), (2, .int a), (3, .int f), (4, .int u)], [.ref 542], h, n, 0, 0)) (by with_unfolding_all rfl) ?_
  refine mc_getr hmi H (k := 542) (c := 561) (pc' := 4) rfl rfl rfl rfl rfl ?_
  refine mc_cx hmi 1 (F' := (5, [(0, .ref 542), (1, .int k), (2, .int a), (3, .int f), (4, .int u)], [.int a, .ref 561], h, n, 0, 0)) (by with_unfolding_all rfl) ?_
  refine mc_iald hmi H (k := 561) (i := ((j + 1 : Nat) : Int)) (pc' := 6) rfl rfl rfl ha (by omega) (by omega) rfl (fun y97 e98 r99 r100 => ?_)
  rw [e98] at r99 r100
  refine mc_cx hmi 2 (F' := (9, [(5, .int y97), (0, .ref 542), (1, .int k), (2, .int a), (3, .int f), (4, .int u)], [.ref 542], h, n, 0, 0)) (by with_unfolding_all rfl) ?_
  refine mc_getr hmi H (k := 542) (c := 563) (pc' := 12) rfl rfl rfl rfl rfl ?_
  refine mc_cx hmi 4 (F' := (16, [(5, .int y97), (0, .ref 542), (1, .int k), (2, .int a), (3, .int f), (4, .int u)], [.int f, .int (a - (Int32.ofInt 1)), .ref 563], h, n, 0, 0)) (by with_unfolding_all rfl) ?_
  have b101 := Int32.le_toInt (f)
  have b102 := Int32.toInt_lt (f)
  refine mc_iast hmi H (k := 563) (i := (j : Int)) (pc' := 17) rfl rfl rfl ea (by omega) (by omega) (by rw [show (f).toInt = f.toInt from rfl]; omega) (by rw [show (f).toInt = f.toInt from rfl]; omega) rfl (fun h103 H104 w105 => ?_)
  refine mc_cx hmi 1 (F' := (18, [(5, .int y97), (0, .ref 542), (1, .int k), (2, .int a), (3, .int f), (4, .int u)], [.ref 542], h103, n, 0, 0)) (by with_unfolding_all rfl) ?_
  refine mc_getr hmi H104 (k := 542) (c := 564) (pc' := 21) rfl rfl rfl rfl rfl ?_
  refine mc_cx hmi 4 (F' := (26, [(5, .int y97), (0, .ref 542), (1, .int k), (2, .int a), (3, .int f), (4, .int u)], [.int u, .int (a - (Int32.ofInt 1)), .ref 564], h103, n, 0, 0)) (by with_unfolding_all rfl) ?_
  have b106 := Int32.le_toInt (u)
  have b107 := Int32.toInt_lt (u)
  refine mc_iast hmi H104 (k := 564) (i := (j : Int)) (pc' := 27) rfl rfl rfl ea (by omega) (by omega) (by rw [show (u).toInt = u.toInt from rfl]; omega) (by rw [show (u).toInt = u.toInt from rfl]; omega) rfl (fun h108 H109 w110 => ?_)
  refine mc_cx hmi 1 (F' := (28, [(5, .int y97), (0, .ref 542), (1, .int k), (2, .int a), (3, .int f), (4, .int u)], [.ref 542], h108, n, 0, 0)) (by with_unfolding_all rfl) ?_
  refine mc_getr hmi H109 (k := 542) (c := 562) (pc' := 31) rfl rfl rfl rfl rfl ?_
  refine mc_cx hmi 4 (F' := (36, [(5, .int y97), (0, .ref 542), (1, .int k), (2, .int a), (3, .int f), (4, .int u)], [.int y97, .int (a - (Int32.ofInt 1)), .ref 562], h108, n, 0, 0)) (by with_unfolding_all rfl) ?_
  have key : ∀ v : Int32, 0 ≤ v.toInt → v.toInt ≤ 14 → mc_R l G mt_X11_down d (fun r' h' n' => n' = n ∧ mc_HW h' n ∧ (∀ (k' : Nat) (i' : Int), (k' = 560 → i' ≠ (j : Int)) → (k' = 561 → i' ≠ (j : Int)) → (k' = 562 → i' ≠ (j : Int)) → (k' = 563 → i' ≠ (j : Int)) → (k' = 564 → i' ≠ (j : Int)) → ab_rd h' k' i' = ab_rd h k' i') ∧ 0 ≤ ab_ri h' 560 (j : Int) ∧ ab_ri h' 564 (j : Int) = u.toInt ∧ ∃ y : Int32, r' = some (.int y) ∧ y.toInt = (j : Int)) (67, [(5, .int y97), (0, .ref 542), (1, .int k), (2, .int a), (3, .int f), (4, .int u)], [.int v, .int (a - (Int32.ofInt 1)), .ref 562], h108, n, 0, 0) := by
    intro v hv0 hv1
    have b111 := Int32.le_toInt (v)
    have b112 := Int32.toInt_lt (v)
    refine mc_iast hmi H109 (k := 562) (i := (j : Int)) (pc' := 68) rfl rfl rfl ea (by omega) (by omega) (by rw [show (v).toInt = v.toInt from rfl]; omega) (by rw [show (v).toInt = v.toInt from rfl]; omega) rfl (fun h113 H114 w115 => ?_)
    refine mc_cx hmi 5 (F' := (73, [(5, .int y97), (0, .ref 542), (1, .int k), (2, .int a), (3, .int f), (4, .int u)], [.int (a - (Int32.ofInt 1)), .int k, .ref 542], h113, n, 0, 0)) (by with_unfolding_all rfl) ?_
    refine mc_call hmi (en := (73, .invokevirtual 184, 3, (3, 182, 11, 0), [1370, 85, 1368])) rfl (q := (mt_X11_open, [.ref 542, .int k, .int (a - (Int32.ofInt 1))], [])) (mc_inv H114 (as := [.int k, .int (a - (Int32.ofInt 1))]) (rest := []) rfl (by with_unfolding_all rfl) rfl rfl rfl) ⟨rfl, rfl⟩ (pc' := 76) rfl (mc_mono (mc_open (by omega) H114 k (a - (Int32.ofInt 1)) hk0 hk1 (j := j) (by omega) ea) ?_)
    intro r5 h5 n5 P5
    obtain ⟨e1, e2, H5, f5, p5⟩ := P5
    rw [e1, e2]
    show mc_R _ _ _ _ _ (76, [(5, .int y97), (0, .ref 542), (1, .int k), (2, .int a), (3, .int f), (4, .int u)], [], h5, n, 0, 0)
    refine mc_cx hmi 3 (F' := (79, [(5, .int y97), (0, .ref 542), (1, .int k), (2, .int a), (3, .int f), (4, .int u)], [.int (a - (Int32.ofInt 1))], h5, n, 0, 0)) (by with_unfolding_all rfl) ?_
    refine mc_ret hmi rfl rfl rfl ⟨rfl, H5, fun k' i' p1 p2 p3 p4 p5 => ?_, p5, ?_, _, rfl, ea⟩
    · rw [f5 k' i' p1 p2, w115, if_neg (fun q => p3 q.1 q.2), w110, if_neg (fun q => p5 q.1 q.2), w105, if_neg (fun q => p4 q.1 q.2)]
    · rw [ab_ri_of (f5 564 (j : Int) (fun q => absurd q (by decide)) (fun q => absurd q (by decide))), mc_ri w115, if_neg (fun q => absurd q.1 (by decide)), mc_ri w110, if_pos ⟨rfl, rfl⟩]
  refine mc_cz hmi (c := .ne) (tg := 48) (pc' := 39) rfl rfl rfl e98 (fun (q116 : ab_ri h 561 (((j + 1 : Nat) : Int)) ≠ 0) => ?_) (fun (q116 : ab_ri h 561 (((j + 1 : Nat) : Int)) = 0) => ?_)
  · refine mc_cx hmi 2 (F' := (52, [(5, .int y97), (0, .ref 542), (1, .int k), (2, .int a), (3, .int f), (4, .int u)], [.int (Int8.ofInt 15).toInt32, .int y97, .int (a - (Int32.ofInt 1)), .ref 562], h108, n, 0, 0)) (by with_unfolding_all rfl) ?_
    refine mc_ci hmi (c := .ge) (tg := 62) (pc' := 55) rfl rfl rfl e98 (by decide) (fun (q121 : 15 ≤ ab_ri h 561 (((j + 1 : Nat) : Int))) => ?_) (fun (q121 : ab_ri h 561 (((j + 1 : Nat) : Int)) < 15) => ?_)
    · refine mc_cx hmi 3 (F' := (67, [(5, .int y97), (0, .ref 542), (1, .int k), (2, .int a), (3, .int f), (4, .int u)], [.int (y97 - (Int8.ofInt 15).toInt32), .int (a - (Int32.ofInt 1)), .ref 562], h108, n, 0, 0)) (by with_unfolding_all rfl) ?_
      have e122 : (y97 - (Int8.ofInt 15).toInt32).toInt = ab_ri h 561 (((j + 1 : Nat) : Int)) - 15 := mc_sub e98 (by decide) (by omega) (by omega)
      exact key _ (by rw [e122]; omega) (by rw [e122]; omega)
    · refine mc_cx hmi 4 (F' := (67, [(5, .int y97), (0, .ref 542), (1, .int k), (2, .int a), (3, .int f), (4, .int u)], [.int (y97 - (Int32.ofInt 1)), .int (a - (Int32.ofInt 1)), .ref 562], h108, n, 0, 0)) (by with_unfolding_all rfl) ?_
      have e123 : (y97 - (Int32.ofInt 1)).toInt = ab_ri h 561 (((j + 1 : Nat) : Int)) - 1 := mc_sub e98 (by decide) (by omega) (by omega)
      exact key _ (by rw [e123]; omega) (by rw [e123]; omega)
  · refine mc_cx hmi 1 (F' := (40, [(5, .int y97), (0, .ref 542), (1, .int k), (2, .int a), (3, .int f), (4, .int u)], [.ref 542, .int (a - (Int32.ofInt 1)), .ref 562], h108, n, 0, 0)) (by with_unfolding_all rfl) ?_
    refine mc_getr hmi H109 (k := 542) (c := 562) (pc' := 43) rfl rfl rfl rfl rfl ?_
    refine mc_cx hmi 1 (F' := (44, [(5, .int y97), (0, .ref 542), (1, .int k), (2, .int a), (3, .int f), (4, .int u)], [.int a, .ref 562, .int (a - (Int32.ofInt 1)), .ref 562], h108, n, 0, 0)) (by with_unfolding_all rfl) ?_
    refine mc_iald hmi H109 (k := 562) (i := ((j + 1 : Nat) : Int)) (pc' := 45) rfl rfl rfl ha (by omega) (by omega) rfl (fun y117 e118 r119 r120 => ?_)
    rw [e118] at r119 r120
    refine mc_cx hmi 1 (F' := (67, [(5, .int y97), (0, .ref 542), (1, .int k), (2, .int a), (3, .int f), (4, .int u)], [.int y117, .int (a - (Int32.ofInt 1)), .ref 562], h108, n, 0, 0)) (by with_unfolding_all rfl) ?_
    exact key _ (by rw [e118]; omega) (by rw [e118]; omega)
end
section
/-! ===== by hand: seek, in the reference (ways printed by wip/hand/h_seek3.py) ===== -/
set_option maxRecDepth 100000 in
theorem chain_sum {U f : Nat → Int} (h0 : U 13 = 0) (hc : ∀ i : Nat, i + 1 ≤ 13 → U i = U (i + 1) + f (i + 1)) : sm f 14 = U 0 + f 0 := by
  have key : ∀ i : Nat, i ≤ 13 → U i + sm f (i + 1) = U 0 + f 0 := by
    intro i
    induction i with
    | zero => intro _; show U 0 + (0 + f 0) = _; omega
    | succ i ih =>
      intro hi
      have h1 := ih (by omega)
      have h2 := hc i (by omega)
      have h3 : sm f (i + 1 + 1) = sm f (i + 1) + f (i + 1) := rfl
      omega
  have h1 : U 13 + sm f 14 = U 0 + f 0 := key 13 (Nat.le_refl _)
  omega
def FRS (h h' : ax_H) : Prop := ∀ (k : Nat) (i : Int), k ≠ 549 → k ≠ 550 → k ≠ 560 → k ≠ 561 → k ≠ 562 → k ≠ 563 → k ≠ 564 → (k = 542 → i ≠ 35) → (k = 542 → i ≠ 36) → ab_rd h' k i = ab_rd h k i
set_option maxRecDepth 100000 in
theorem FRS_trans {h h1 h2 : ax_H} (a : FRS h h1) (b : FRS h1 h2) : FRS h h2 := fun k i p1 p2 p3 p4 p5 p6 p7 p8 p9 => (b k i p1 p2 p3 p4 p5 p6 p7 p8 p9).trans (a k i p1 p2 p3 p4 p5 p6 p7 p8 p9)
-- where seek stands
def SK (h h' : ax_H) (n j : Nat) : Prop := mc_HW h' n ∧ FRS h h' ∧ ab_ri h' 564 13 = 0 ∧ ∀ i : Nat, j ≤ i → i + 1 ≤ 13 → ab_ri h' 564 (i : Int) = ab_ri h' 564 ((i + 1 : Nat) : Int) + fS h' (i + 1) ∧ 0 ≤ ab_ri h' 560 ((i + 1 : Nat) : Int)
-- the levels above are as they were
def AB (h' h2 : ax_H) (j : Nat) : Prop := ∀ i : Nat, j < i → ab_ri h2 560 (i : Int) = ab_ri h' 560 (i : Int) ∧ ab_ri h2 561 (i : Int) = ab_ri h' 561 (i : Int)
set_option maxRecDepth 100000 in
theorem AB_lvl {h' h2 : ax_H} {j i : Nat} (e : AB h' h2 j) (hi : j < i) : lvl h2 i = lvl h' i := by
  unfold lvl
  rw [(e i hi).1, (e i hi).2]
set_option maxRecDepth 100000 in
theorem lvl_nn {h : ax_H} {n j : Nat} (H : mc_HW h n) (hj : j ≤ 13) : -1 ≤ ab_ri h 560 (j : Int) ∧ (ab_ri h 560 (j : Int) + 1) * 29 ≤ lvl h j ∧ lvl h j ≤ (ab_ri h 560 (j : Int) + 1) * 29 + 28 := by
  have h1 := mc_rng H (k := 560) (i := (j : Int)) rfl rfl (by omega) (by omega)
  have h2 := mc_rng H (k := 561) (i := (j : Int)) rfl rfl (by omega) (by omega)
  unfold lvl rk
  refine ⟨h1.1, ?_, ?_⟩ <;> split <;> (try split) <;> omega
-- one level alone has changed
set_option maxRecDepth 100000 in
theorem SK_lev {h h1 h2 : ax_H} {n j j' : Nat} (S : SK h h1 n j') (hj : j' ≤ j) (H2 : mc_HW h2 n) (f : NWf h1 h2 j) : SK h h2 n j ∧ AB h1 h2 j := by
  obtain ⟨s1, s2, s3, s4⟩ := S
  have g : ∀ (c : Nat) (i : Int), i ≠ (j : Int) → ab_ri h2 c i = ab_ri h1 c i := fun c i hi => ab_ri_of (f c i (fun _ => hi) (fun _ => hi))
  have gU : ∀ i : Int, ab_ri h2 564 i = ab_ri h1 564 i := fun i => ab_ri_of (f 564 i (fun q => absurd q (by decide)) (fun q => absurd q (by decide)))
  refine ⟨⟨H2, fun k i p1 p2 p3 p4 p5 p6 p7 p8 p9 => (f k i (fun q => absurd q p3) (fun q => absurd q p4)).trans (s2 k i p1 p2 p3 p4 p5 p6 p7 p8 p9), by rw [gU]; exact s3, fun i h1 h2 => ?_⟩, fun i hi => ⟨g 560 _ (by omega), g 561 _ (by omega)⟩⟩
  have := s4 i (by omega) h2
  unfold fS at this ⊢
  rw [gU, gU, g 560 _ (by omega), g 561 _ (by omega)]
  exact this
set_option maxRecDepth 100000 in
theorem sk_lev {l : Launch} {G : ax_T} {d : Nat} {Q : Option Value → ax_H → Nat → Prop} {h : ax_H} {n : Nat} (hd : 4 ≤ d) (k w : Int32) (hk0 : 0 ≤ k.toInt) (hk1 : k.toInt ≤ 5) (kx : (∀ h' : ax_H, mc_HW h' n → FRS h h' → mc_R l G mt_X11_seek d Q (254, [(0, .ref 542)], [], h', n, 0, 0))) : ∀ (j : Nat), j ≤ 13 → ∀ (c : Nat) (h' : ax_H) (a : Int32), SK h h' n j → a.toInt = (j : Int) → (lvl h' j).toNat ≤ c → (∀ (h2 : ax_H) (a : Int32), SK h h2 n j → a.toInt = (j : Int) → AB h' h2 j → ab_ri h2 560 (j : Int) < 0 → mc_R l G mt_X11_seek d Q (60, [(0, .ref 542), (1, .int k), (3, .int w), (4, .int a)], [], h2, n, 0, 0)) → mc_R l G mt_X11_seek d Q (60, [(0, .ref 542), (1, .int k), (3, .int w), (4, .int a)], [], h', n, 0, 0) := by
  have hmi : mt_X11_seek ∈ mt_prog := List.mem_of_getElem? mi_X11_seek
  intro j
  induction j with
  | zero =>
    intro hj c
    induction c with
    | zero =>
      intro h' a S ha hc kk
      have hl := lvl_nn S.1 hj
      exact kk h' a S ha (fun _ _ => ⟨rfl, rfl⟩) (by omega)
    | succ c ih =>
      intro h' a S ha hc kk
      have hl := lvl_nn S.1 hj
      by_cases hP : ab_ri h' 560 ((0 : Nat) : Int) < 0
      · exact kk h' a S ha (fun _ _ => ⟨rfl, rfl⟩) hP
      obtain ⟨s1, s2, s3, s4⟩ := id S
      refine mc_cx hmi 2 (F' := (64, [(0, .ref 542), (1, .int k), (3, .int w), (4, .int a)], [.int (Int8.ofInt 14).toInt32, .int a], h', n, 0, 0)) (by with_unfolding_all rfl) ?_
      refine mc_ci hmi (c := .ge) (tg := 254) (pc' := 67) rfl rfl rfl ha (by decide) (fun (q1 : 14 ≤ ((0 : Nat) : Int)) => ?_) (fun (q1 : ((0 : Nat) : Int) < 14) => ?_)
      · exact absurd q1 (by omega)
      · refine mc_cx hmi 1 (F' := (68, [(0, .ref 542), (1, .int k), (3, .int w), (4, .int a)], [.ref 542], h', n, 0, 0)) (by with_unfolding_all rfl) ?_
        refine mc_geti hmi s1 (k := 542) (j := 35) (pc' := 71) rfl rfl rfl rfl (fun y2 (e3 : y2.toInt = ab_ri h' 542 35) r4 r5 => ?_)
        rw [e3] at r4 r5
        refine mc_cx hmi 1 (F' := (74, [(0, .ref 542), (1, .int k), (3, .int w), (4, .int a)], [.int (Int16.ofInt 5000).toInt32, .int y2], h', n, 0, 0)) (by with_unfolding_all rfl) ?_
        refine mc_ci hmi (c := .ge) (tg := 254) (pc' := 77) rfl rfl rfl e3 (by decide) (fun (q6 : 5000 ≤ ab_ri h' 542 35) => ?_) (fun (q6 : ab_ri h' 542 35 < 5000) => ?_)
        · refine mc_lvs (lv' := [(0, .ref 542)]) (by simp) ?_
          exact kx h' s1 s2
        · refine mc_cx hmi 1 (F' := (78, [(0, .ref 542), (1, .int k), (3, .int w), (4, .int a)], [.ref 542], h', n, 0, 0)) (by with_unfolding_all rfl) ?_
          refine mc_getr hmi s1 (k := 542) (c := 560) (pc' := 81) rfl rfl rfl rfl rfl ?_
          refine mc_cx hmi 1 (F' := (83, [(0, .ref 542), (1, .int k), (3, .int w), (4, .int a)], [.int a, .ref 560], h', n, 0, 0)) (by with_unfolding_all rfl) ?_
          refine mc_iald hmi s1 (k := 560) (i := ((0 : Nat) : Int)) (pc' := 84) rfl rfl rfl ha (by omega) (by omega) rfl (fun y7 e8 r9 r10 => ?_)
          rw [e8] at r9 r10
          refine mc_cz hmi (c := .ge) (tg := 118) (pc' := 87) rfl rfl rfl e8 (fun (q11 : 0 ≤ ab_ri h' 560 (((0 : Nat) : Int))) => ?_) (fun (q11 : ab_ri h' 560 (((0 : Nat) : Int)) < 0) => ?_)
          · have k233 : ∀ h2 : ax_H, mc_HW h2 n → SK h h2 n 0 → AB h' h2 0 → lvl h2 0 = lvl h' 0 → mc_R l G mt_X11_seek d Q (233, [(0, .ref 542), (1, .int k), (3, .int w), (4, .int a)], [], h2, n, 0, 0) := by
              intro h2 H2 S2 A2 l2
              refine mc_cx hmi 3 (F' := (237, [(0, .ref 542), (1, .int k), (3, .int w), (4, .int a)], [.int a, .int k, .ref 542], h2, n, 0, 0)) (by with_unfolding_all rfl) ?_
              refine mc_call hmi (en := (237, .invokevirtual 188, 3, (3, 179, 11, 0), [1374, 86, 1372])) rfl (q := (mt_X11_nextWay, [.ref 542, .int k, .int a], [])) (mc_inv H2 (as := [.int k, .int a]) (rest := []) rfl (by with_unfolding_all rfl) rfl rfl rfl) ⟨rfl, rfl⟩ (pc' := 240) rfl (mc_mono (mc_nextWay (by omega) H2 k a hk0 hk1 hj ha) ?_)
              intro r6 h6 n6 P6
              obtain ⟨e6, H6, f6, y6, rfl, hy6⟩ := P6
              rw [e6]
              show mc_R _ _ _ _ _ (240, [(0, .ref 542), (1, .int k), (3, .int w), (4, .int a)], [.int y6], h6, n, 0, 0)
              obtain ⟨S6, A6⟩ := SK_lev S2 (by omega) H6 f6
              have l0 := l2
              have ab0 := A2
              refine mc_cz hmi (c := .ne) (tg := 251) (pc' := 243) rfl rfl rfl rfl (fun (q12 : y6.toInt ≠ 0) => ?_) (fun (q12 : y6.toInt = 0) => ?_)
              · refine mc_cx hmi 1 (F' := (60, [(0, .ref 542), (1, .int k), (3, .int w), (4, .int a)], [], h6, n, 0, 0)) (by with_unfolding_all rfl) ?_
                refine mc_lvs (lv' := [(0, .ref 542), (1, .int k), (3, .int w), (4, .int a)]) (by simp) ?_
                have l6 : lvl h6 0 < lvl h2 0 := hy6.elim (fun q => absurd q q12) (fun q => q.2.2)
                refine ih h6 a S6 ha (by omega) (fun h7 a7 S7 ha7 A7 p7 => kk h7 a7 S7 ha7 (fun i hi => ?_) p7)
                exact ⟨((A7 i hi).1.trans (A6 i hi).1).trans (ab0 i hi).1, ((A7 i hi).2.trans (A6 i hi).2).trans (ab0 i hi).2⟩
              · refine mc_cx hmi 1 (F' := (244, [(0, .ref 542), (1, .int k), (3, .int w), (4, .int a)], [.ref 542], h6, n, 0, 0)) (by with_unfolding_all rfl) ?_
                refine mc_getr hmi H6 (k := 542) (c := 560) (pc' := 247) rfl rfl rfl rfl rfl ?_
                refine mc_cx hmi 2 (F' := (250, [(0, .ref 542), (1, .int k), (3, .int w), (4, .int a)], [.int (Int32.ofInt (-1)), .int a, .ref 560], h6, n, 0, 0)) (by with_unfolding_all rfl) ?_
                refine mc_iast hmi H6 (k := 560) (i := ((0 : Nat) : Int)) (pc' := 251) rfl rfl rfl ha (by omega) (by omega) (by rw [show ((Int32.ofInt (-1))).toInt = (-1) from by decide]; omega) (by rw [show ((Int32.ofInt (-1))).toInt = (-1) from by decide]; omega) rfl (fun h13 H14 w15 => ?_)
                refine mc_cx hmi 1 (F' := (60, [(0, .ref 542), (1, .int k), (3, .int w), (4, .int a)], [], h13, n, 0, 0)) (by with_unfolding_all rfl) ?_
                refine mc_lvs (lv' := [(0, .ref 542), (1, .int k), (3, .int w), (4, .int a)]) (by simp) ?_
                have f8 : NWf h6 h13 0 := fun k' i' p1 p2 => by rw [w15, if_neg (fun q => p1 q.1 q.2)]
                obtain ⟨S8, A8⟩ := SK_lev S6 (Nat.le_refl _) H14 f8
                exact kk h13 a S8 ha (fun i hi => ⟨((A8 i hi).1.trans (A6 i hi).1).trans (ab0 i hi).1, ((A8 i hi).2.trans (A6 i hi).2).trans (ab0 i hi).2⟩) (by rw [mc_ri w15, if_pos ⟨rfl, rfl⟩]; decide)
            refine mc_cx hmi 1 (F' := (119, [(0, .ref 542), (1, .int k), (3, .int w), (4, .int a)], [.ref 542], h', n, 0, 0)) (by with_unfolding_all rfl) ?_
            refine mc_getr hmi s1 (k := 542) (c := 563) (pc' := 122) rfl rfl rfl rfl rfl ?_
            refine mc_cx hmi 1 (F' := (124, [(0, .ref 542), (1, .int k), (3, .int w), (4, .int a)], [.int a, .ref 563], h', n, 0, 0)) (by with_unfolding_all rfl) ?_
            refine mc_iald hmi s1 (k := 563) (i := ((0 : Nat) : Int)) (pc' := 125) rfl rfl rfl ha (by omega) (by omega) rfl (fun y16 e17 r18 r19 => ?_)
            rw [e17] at r18 r19
            refine mc_cx hmi 2 (F' := (128, [(0, .ref 542), (1, .int k), (3, .int w), (4, .int a)], [.int a, .ref 542, .int y16], h', n, 0, 0)) (by with_unfolding_all rfl) ?_
            refine mc_callP hmi (en := (128, .invokevirtual 191, 3, (3, 177, 11, 0), [1382, 88, 1380])) rfl (q := (mt_X11_worthBy, [.ref 542, .int a], [.int y16])) (mc_inv s1 (as := [.int a]) (rest := [.int y16]) rfl (by with_unfolding_all rfl) rfl rfl rfl) ⟨rfl, rfl⟩ (pc' := 131) rfl (mc_worthBy (by omega) s1 a hj ha) (fun y20 e21 => ?_)
            refine mc_cx hmi 3 (F' := (135, [(5, .int (y16 - y20)), (0, .ref 542), (1, .int k), (3, .int w), (4, .int a)], [.ref 542], h', n, 0, 0)) (by with_unfolding_all rfl) ?_
            refine mc_getr hmi s1 (k := 542) (c := 564) (pc' := 138) rfl rfl rfl rfl rfl ?_
            refine mc_cx hmi 1 (F' := (140, [(5, .int (y16 - y20)), (0, .ref 542), (1, .int k), (3, .int w), (4, .int a)], [.int a, .ref 564], h', n, 0, 0)) (by with_unfolding_all rfl) ?_
            refine mc_iald hmi s1 (k := 564) (i := ((0 : Nat) : Int)) (pc' := 141) rfl rfl rfl ha (by omega) (by omega) rfl (fun y22 e23 r24 r25 => ?_)
            rw [e23] at r24 r25
            refine mc_cx hmi 1 (F' := (142, [(5, .int (y16 - y20)), (0, .ref 542), (1, .int k), (3, .int w), (4, .int a)], [.ref 542, .int y22], h', n, 0, 0)) (by with_unfolding_all rfl) ?_
            refine mc_getr hmi s1 (k := 542) (c := 560) (pc' := 145) rfl rfl rfl rfl rfl ?_
            refine mc_cx hmi 1 (F' := (147, [(5, .int (y16 - y20)), (0, .ref 542), (1, .int k), (3, .int w), (4, .int a)], [.int a, .ref 560, .int y22], h', n, 0, 0)) (by with_unfolding_all rfl) ?_
            refine mc_iald hmi s1 (k := 560) (i := ((0 : Nat) : Int)) (pc' := 148) rfl rfl rfl ha (by omega) (by omega) rfl (fun y26 e27 r28 r29 => ?_)
            rw [e27] at r28 r29
            refine mc_cx hmi 2 (F' := (150, [(5, .int (y16 - y20)), (0, .ref 542), (1, .int k), (3, .int w), (4, .int a)], [.ref 542, .int (y22 + y26)], h', n, 0, 0)) (by with_unfolding_all rfl) ?_
            have e30 : (y22 + y26).toInt = ab_ri h' 564 (((0 : Nat) : Int)) + ab_ri h' 560 (((0 : Nat) : Int)) := mc_add e23 e27 (by omega) (by omega)
            refine mc_getr hmi s1 (k := 542) (c := 561) (pc' := 153) rfl rfl rfl rfl rfl ?_
            refine mc_cx hmi 1 (F' := (155, [(5, .int (y16 - y20)), (0, .ref 542), (1, .int k), (3, .int w), (4, .int a)], [.int a, .ref 561, .int (y22 + y26)], h', n, 0, 0)) (by with_unfolding_all rfl) ?_
            refine mc_iald hmi s1 (k := 561) (i := ((0 : Nat) : Int)) (pc' := 156) rfl rfl rfl ha (by omega) (by omega) rfl (fun y31 e32 r33 r34 => ?_)
            rw [e32] at r33 r34
            refine mc_callP hmi (en := (156, .invokestatic 194, 3, (3, 176, 0, 0), [1385, 1384])) rfl (q := (mt_X11_signsOf, [.int y31], [.int (y22 + y26)])) (by with_unfolding_all rfl) ⟨rfl, rfl⟩ (pc' := 159) rfl (mc_signsOf (by omega) y31) (fun y35 e36 => ?_)
            rw [e32] at e36
            have hsg := sg_b (ab_ri h' 561 (((0 : Nat) : Int)))
            refine mc_cx hmi 4 (F' := (166, [(6, .int ((y22 + y26) + y35)), (5, .int (y16 - y20)), (0, .ref 542), (1, .int k), (3, .int w), (4, .int a)], [.int (Int8.ofInt 24).toInt32, .int ((y22 + y26) + y35)], h', n, 0, 0)) (by with_unfolding_all rfl) ?_
            have e37 : ((y22 + y26) + y35).toInt = (ab_ri h' 564 (((0 : Nat) : Int)) + ab_ri h' 560 (((0 : Nat) : Int))) + sg (ab_ri h' 561 (((0 : Nat) : Int))) := mc_add e30 e36 (by omega) (by omega)
            have hus : ((y22 + y26) + y35).toInt = ab_ri h' 564 ((0 : Nat) : Int) + fS h' 0 := by rw [e37]; unfold fS; omega
            have hu0 : 0 ≤ ((y22 + y26) + y35).toInt := by rw [e37]; omega
            have k190 : ∀ g : Int32, (g.toInt ≠ 0 → ((y22 + y26) + y35).toInt ≤ 24) → mc_R l G mt_X11_seek d Q (190, [(6, .int ((y22 + y26) + y35)), (5, .int (y16 - y20)), (0, .ref 542), (1, .int k), (3, .int w), (4, .int a)], [.int g], h', n, 0, 0) := by
              intro g hg
              refine mc_cx hmi 2 (F' := (194, [(7, .int g), (6, .int ((y22 + y26) + y35)), (5, .int (y16 - y20)), (0, .ref 542), (1, .int k), (3, .int w), (4, .int a)], [.int g], h', n, 0, 0)) (by with_unfolding_all rfl) ?_
              refine mc_cz hmi (c := .eq) (tg := 212) (pc' := 197) rfl rfl rfl rfl (fun (q38 : g.toInt = 0) => ?_) (fun (q38 : g.toInt ≠ 0) => ?_)
              · refine mc_cx hmi 1 (F' := (214, [(7, .int g), (6, .int ((y22 + y26) + y35)), (5, .int (y16 - y20)), (0, .ref 542), (1, .int k), (3, .int w), (4, .int a)], [.int g], h', n, 0, 0)) (by with_unfolding_all rfl) ?_
                refine mc_cz hmi (c := .eq) (tg := 233) (pc' := 217) rfl rfl rfl rfl (fun (q39 : g.toInt = 0) => ?_) (fun (q39 : g.toInt ≠ 0) => ?_)
                · refine mc_lvs (lv' := [(0, .ref 542), (1, .int k), (3, .int w), (4, .int a)]) (by simp) ?_
                  exact k233 h' s1 S (fun _ _ => ⟨rfl, rfl⟩) rfl
                · exact absurd q38 q39
              · refine mc_cx hmi 1 (F' := (199, [(7, .int g), (6, .int ((y22 + y26) + y35)), (5, .int (y16 - y20)), (0, .ref 542), (1, .int k), (3, .int w), (4, .int a)], [.int a], h', n, 0, 0)) (by with_unfolding_all rfl) ?_
                refine mc_cz hmi (c := .ne) (tg := 212) (pc' := 202) rfl rfl rfl ha (fun (q40 : ((0 : Nat) : Int) ≠ 0) => ?_) (fun (q40 : ((0 : Nat) : Int) = 0) => ?_)
                · exact absurd (show ((0 : Nat) : Int) = 0 from rfl) q40
                · refine mc_cx hmi 3 (F' := (206, [(7, .int g), (6, .int ((y22 + y26) + y35)), (5, .int (y16 - y20)), (0, .ref 542), (1, .int k), (3, .int w), (4, .int a)], [.int ((y22 + y26) + y35), .int w, .ref 542], h', n, 0, 0)) (by with_unfolding_all rfl) ?_
                  have hcs := chain_sum (U := fun i => ab_ri h' 564 (i : Int)) (f := fS h') s3 (fun i hi => (s4 i (Nat.zero_le _) hi).1)
                  have hcs' : sm (fS h') 14 = ab_ri h' 564 ((0 : Nat) : Int) + fS h' 0 := hcs
                  have hgg := hg q38
                  have hPa : ∀ i : Nat, i < 14 → 0 ≤ ab_ri h' 560 (i : Int) := by
                    intro i hi
                    by_cases e : i = 0
                    · rw [e]; omega
                    · have := (s4 (i - 1) (Nat.zero_le _) (by omega)).2; rw [show i - 1 + 1 = i by omega] at this; exact this
                  refine mc_call hmi (en := (206, .invokevirtual 200, 3, (3, 183, 11, 0), [1393, 90, 1391])) rfl (q := (mt_X11_noteOne, [.ref 542, .int w, .int ((y22 + y26) + y35)], [])) (mc_inv s1 (as := [.int w, .int ((y22 + y26) + y35)]) (rest := []) rfl (by with_unfolding_all rfl) rfl rfl rfl) ⟨rfl, rfl⟩ (pc' := 209) rfl (mc_mono (mc_noteOne (by omega) s1 w ((y22 + y26) + y35) hgg hPa (by omega) (by omega)) ?_)
                  intro r2 h2 n2 P2
                  obtain ⟨e1, e2, H2, f2⟩ := P2
                  rw [e1, e2]
                  show mc_R _ _ _ _ _ (209, [(7, .int g), (6, .int ((y22 + y26) + y35)), (5, .int (y16 - y20)), (0, .ref 542), (1, .int k), (3, .int w), (4, .int a)], [], h2, n, 0, 0)
                  refine mc_cx hmi 3 (F' := (214, [(7, .int (Int32.ofInt 0)), (6, .int ((y22 + y26) + y35)), (5, .int (y16 - y20)), (0, .ref 542), (1, .int k), (3, .int w), (4, .int a)], [.int (Int32.ofInt 0)], h2, n, 0, 0)) (by with_unfolding_all rfl) ?_
                  refine mc_cz hmi (c := .eq) (tg := 233) (pc' := 217) rfl rfl rfl (by decide) (fun (q41 : 0 = 0) => ?_) (fun (q41 : 0 ≠ 0) => ?_)
                  · have g0 : ∀ i : Int, ab_ri h2 560 i = ab_ri h' 560 i := fun i => ab_ri_of (f2 560 i (by decide) (by decide) (fun q => absurd q (by decide)) (fun q => absurd q (by decide)))
                    have g1 : ∀ i : Int, ab_ri h2 561 i = ab_ri h' 561 i := fun i => ab_ri_of (f2 561 i (by decide) (by decide) (fun q => absurd q (by decide)) (fun q => absurd q (by decide)))
                    have g4 : ∀ i : Int, ab_ri h2 564 i = ab_ri h' 564 i := fun i => ab_ri_of (f2 564 i (by decide) (by decide) (fun q => absurd q (by decide)) (fun q => absurd q (by decide)))
                    refine mc_lvs (lv' := [(0, .ref 542), (1, .int k), (3, .int w), (4, .int a)]) (by simp) ?_
                    refine k233 h2 H2 ⟨H2, fun k' i' p1 p2 p3 p4 p5 p6 p7 p8 p9 => (f2 k' i' p1 p2 p8 p9).trans (s2 k' i' p1 p2 p3 p4 p5 p6 p7 p8 p9), by rw [g4]; exact s3, fun i h1 h2 => ?_⟩ (fun i _ => ⟨g0 _, g1 _⟩) (by unfold lvl; rw [g0, g1])
                    have := s4 i h1 h2
                    unfold fS at this ⊢
                    rw [g4, g4, g0, g1]
                    exact this
                  · exact absurd (by decide) q41
            refine mc_ci hmi (c := .gt) (tg := 189) (pc' := 169) rfl rfl rfl e37 (by decide) (fun (q42 : 24 < ((ab_ri h' 564 (((0 : Nat) : Int)) + ab_ri h' 560 (((0 : Nat) : Int))) + sg (ab_ri h' 561 (((0 : Nat) : Int))))) => ?_) (fun (q42 : ((ab_ri h' 564 (((0 : Nat) : Int)) + ab_ri h' 560 (((0 : Nat) : Int))) + sg (ab_ri h' 561 (((0 : Nat) : Int)))) ≤ 24) => ?_)
            · refine mc_cx hmi 1 (F' := (190, [(6, .int ((y22 + y26) + y35)), (5, .int (y16 - y20)), (0, .ref 542), (1, .int k), (3, .int w), (4, .int a)], [.int (Int32.ofInt 0)], h', n, 0, 0)) (by with_unfolding_all rfl) ?_
              exact k190 _ (fun q => absurd (by decide) q)
            · have hle : ((y22 + y26) + y35).toInt ≤ 24 := by rw [e37]; exact q42
              refine mc_cx hmi 6 (F' := (179, [(6, .int ((y22 + y26) + y35)), (5, .int (y16 - y20)), (0, .ref 542), (1, .int k), (3, .int w), (4, .int a)], [.int ((Int8.ofInt 24).toInt32 - ((y22 + y26) + y35)), .int (y16 - y20), .int a, .ref 542], h', n, 0, 0)) (by with_unfolding_all rfl) ?_
              have e43 : ((Int8.ofInt 24).toInt32 - ((y22 + y26) + y35)).toInt = 24 - ((ab_ri h' 564 (((0 : Nat) : Int)) + ab_ri h' 560 (((0 : Nat) : Int))) + sg (ab_ri h' 561 (((0 : Nat) : Int)))) := mc_sub (by decide) e37 (by omega) (by omega)
              refine mc_callP hmi (en := (179, .invokevirtual 197, 3, (3, 175, 11, 0), [1389, 89, 1387])) rfl (q := (mt_X11_mayCome, [.ref 542, .int a, .int (y16 - y20), .int ((Int8.ofInt 24).toInt32 - ((y22 + y26) + y35))], [])) (mc_inv s1 (as := [.int a, .int (y16 - y20), .int ((Int8.ofInt 24).toInt32 - ((y22 + y26) + y35))]) (rest := []) rfl (by with_unfolding_all rfl) rfl rfl rfl) ⟨rfl, rfl⟩ (pc' := 182) rfl (mc_mayCome (by omega) s1 a (y16 - y20) ((Int8.ofInt 24).toInt32 - ((y22 + y26) + y35)) hj ha) (fun y44 e45 => ?_)
              refine mc_cz hmi (c := .eq) (tg := 189) (pc' := 185) rfl rfl rfl rfl (fun (q46 : y44.toInt = 0) => ?_) (fun (q46 : y44.toInt ≠ 0) => ?_)
              · refine mc_cx hmi 1 (F' := (190, [(6, .int ((y22 + y26) + y35)), (5, .int (y16 - y20)), (0, .ref 542), (1, .int k), (3, .int w), (4, .int a)], [.int (Int32.ofInt 0)], h', n, 0, 0)) (by with_unfolding_all rfl) ?_
                exact k190 _ (fun q => absurd (by decide) q)
              · refine mc_cx hmi 2 (F' := (190, [(6, .int ((y22 + y26) + y35)), (5, .int (y16 - y20)), (0, .ref 542), (1, .int k), (3, .int w), (4, .int a)], [.int (Int32.ofInt 1)], h', n, 0, 0)) (by with_unfolding_all rfl) ?_
                exact k190 _ (fun _ => hle)
          · exact absurd q11 hP
  | succ j ihj =>
    intro hj c
    induction c with
    | zero =>
      intro h' a S ha hc kk
      have hl := lvl_nn S.1 hj
      exact kk h' a S ha (fun _ _ => ⟨rfl, rfl⟩) (by omega)
    | succ c ih =>
      intro h' a S ha hc kk
      have hl := lvl_nn S.1 hj
      by_cases hP : ab_ri h' 560 ((j + 1 : Nat) : Int) < 0
      · exact kk h' a S ha (fun _ _ => ⟨rfl, rfl⟩) hP
      obtain ⟨s1, s2, s3, s4⟩ := id S
      refine mc_cx hmi 2 (F' := (64, [(0, .ref 542), (1, .int k), (3, .int w), (4, .int a)], [.int (Int8.ofInt 14).toInt32, .int a], h', n, 0, 0)) (by with_unfolding_all rfl) ?_
      refine mc_ci hmi (c := .ge) (tg := 254) (pc' := 67) rfl rfl rfl ha (by decide) (fun (q47 : 14 ≤ ((j + 1 : Nat) : Int)) => ?_) (fun (q47 : ((j + 1 : Nat) : Int) < 14) => ?_)
      · exact absurd q47 (by omega)
      · refine mc_cx hmi 1 (F' := (68, [(0, .ref 542), (1, .int k), (3, .int w), (4, .int a)], [.ref 542], h', n, 0, 0)) (by with_unfolding_all rfl) ?_
        refine mc_geti hmi s1 (k := 542) (j := 35) (pc' := 71) rfl rfl rfl rfl (fun y48 (e49 : y48.toInt = ab_ri h' 542 35) r50 r51 => ?_)
        rw [e49] at r50 r51
        refine mc_cx hmi 1 (F' := (74, [(0, .ref 542), (1, .int k), (3, .int w), (4, .int a)], [.int (Int16.ofInt 5000).toInt32, .int y48], h', n, 0, 0)) (by with_unfolding_all rfl) ?_
        refine mc_ci hmi (c := .ge) (tg := 254) (pc' := 77) rfl rfl rfl e49 (by decide) (fun (q52 : 5000 ≤ ab_ri h' 542 35) => ?_) (fun (q52 : ab_ri h' 542 35 < 5000) => ?_)
        · refine mc_lvs (lv' := [(0, .ref 542)]) (by simp) ?_
          exact kx h' s1 s2
        · refine mc_cx hmi 1 (F' := (78, [(0, .ref 542), (1, .int k), (3, .int w), (4, .int a)], [.ref 542], h', n, 0, 0)) (by with_unfolding_all rfl) ?_
          refine mc_getr hmi s1 (k := 542) (c := 560) (pc' := 81) rfl rfl rfl rfl rfl ?_
          refine mc_cx hmi 1 (F' := (83, [(0, .ref 542), (1, .int k), (3, .int w), (4, .int a)], [.int a, .ref 560], h', n, 0, 0)) (by with_unfolding_all rfl) ?_
          refine mc_iald hmi s1 (k := 560) (i := ((j + 1 : Nat) : Int)) (pc' := 84) rfl rfl rfl ha (by omega) (by omega) rfl (fun y53 e54 r55 r56 => ?_)
          rw [e54] at r55 r56
          refine mc_cz hmi (c := .ge) (tg := 118) (pc' := 87) rfl rfl rfl e54 (fun (q57 : 0 ≤ ab_ri h' 560 (((j + 1 : Nat) : Int))) => ?_) (fun (q57 : ab_ri h' 560 (((j + 1 : Nat) : Int)) < 0) => ?_)
          · have k233 : ∀ h2 : ax_H, mc_HW h2 n → SK h h2 n (j + 1) → AB h' h2 (j + 1) → lvl h2 (j + 1) = lvl h' (j + 1) → mc_R l G mt_X11_seek d Q (233, [(0, .ref 542), (1, .int k), (3, .int w), (4, .int a)], [], h2, n, 0, 0) := by
              intro h2 H2 S2 A2 l2
              refine mc_cx hmi 3 (F' := (237, [(0, .ref 542), (1, .int k), (3, .int w), (4, .int a)], [.int a, .int k, .ref 542], h2, n, 0, 0)) (by with_unfolding_all rfl) ?_
              refine mc_call hmi (en := (237, .invokevirtual 188, 3, (3, 179, 11, 0), [1374, 86, 1372])) rfl (q := (mt_X11_nextWay, [.ref 542, .int k, .int a], [])) (mc_inv H2 (as := [.int k, .int a]) (rest := []) rfl (by with_unfolding_all rfl) rfl rfl rfl) ⟨rfl, rfl⟩ (pc' := 240) rfl (mc_mono (mc_nextWay (by omega) H2 k a hk0 hk1 hj ha) ?_)
              intro r6 h6 n6 P6
              obtain ⟨e6, H6, f6, y6, rfl, hy6⟩ := P6
              rw [e6]
              show mc_R _ _ _ _ _ (240, [(0, .ref 542), (1, .int k), (3, .int w), (4, .int a)], [.int y6], h6, n, 0, 0)
              obtain ⟨S6, A6⟩ := SK_lev S2 (by omega) H6 f6
              have l0 := l2
              have ab0 := A2
              refine mc_cz hmi (c := .ne) (tg := 251) (pc' := 243) rfl rfl rfl rfl (fun (q58 : y6.toInt ≠ 0) => ?_) (fun (q58 : y6.toInt = 0) => ?_)
              · refine mc_cx hmi 1 (F' := (60, [(0, .ref 542), (1, .int k), (3, .int w), (4, .int a)], [], h6, n, 0, 0)) (by with_unfolding_all rfl) ?_
                refine mc_lvs (lv' := [(0, .ref 542), (1, .int k), (3, .int w), (4, .int a)]) (by simp) ?_
                have l6 : lvl h6 (j + 1) < lvl h2 (j + 1) := hy6.elim (fun q => absurd q q58) (fun q => q.2.2)
                refine ih h6 a S6 ha (by omega) (fun h7 a7 S7 ha7 A7 p7 => kk h7 a7 S7 ha7 (fun i hi => ?_) p7)
                exact ⟨((A7 i hi).1.trans (A6 i hi).1).trans (ab0 i hi).1, ((A7 i hi).2.trans (A6 i hi).2).trans (ab0 i hi).2⟩
              · refine mc_cx hmi 1 (F' := (244, [(0, .ref 542), (1, .int k), (3, .int w), (4, .int a)], [.ref 542], h6, n, 0, 0)) (by with_unfolding_all rfl) ?_
                refine mc_getr hmi H6 (k := 542) (c := 560) (pc' := 247) rfl rfl rfl rfl rfl ?_
                refine mc_cx hmi 2 (F' := (250, [(0, .ref 542), (1, .int k), (3, .int w), (4, .int a)], [.int (Int32.ofInt (-1)), .int a, .ref 560], h6, n, 0, 0)) (by with_unfolding_all rfl) ?_
                refine mc_iast hmi H6 (k := 560) (i := ((j + 1 : Nat) : Int)) (pc' := 251) rfl rfl rfl ha (by omega) (by omega) (by rw [show ((Int32.ofInt (-1))).toInt = (-1) from by decide]; omega) (by rw [show ((Int32.ofInt (-1))).toInt = (-1) from by decide]; omega) rfl (fun h59 H60 w61 => ?_)
                refine mc_cx hmi 1 (F' := (60, [(0, .ref 542), (1, .int k), (3, .int w), (4, .int a)], [], h59, n, 0, 0)) (by with_unfolding_all rfl) ?_
                refine mc_lvs (lv' := [(0, .ref 542), (1, .int k), (3, .int w), (4, .int a)]) (by simp) ?_
                have f8 : NWf h6 h59 (j + 1) := fun k' i' p1 p2 => by rw [w61, if_neg (fun q => p1 q.1 q.2)]
                obtain ⟨S8, A8⟩ := SK_lev S6 (Nat.le_refl _) H60 f8
                exact kk h59 a S8 ha (fun i hi => ⟨((A8 i hi).1.trans (A6 i hi).1).trans (ab0 i hi).1, ((A8 i hi).2.trans (A6 i hi).2).trans (ab0 i hi).2⟩) (by rw [mc_ri w61, if_pos ⟨rfl, rfl⟩]; decide)
            refine mc_cx hmi 1 (F' := (119, [(0, .ref 542), (1, .int k), (3, .int w), (4, .int a)], [.ref 542], h', n, 0, 0)) (by with_unfolding_all rfl) ?_
            refine mc_getr hmi s1 (k := 542) (c := 563) (pc' := 122) rfl rfl rfl rfl rfl ?_
            refine mc_cx hmi 1 (F' := (124, [(0, .ref 542), (1, .int k), (3, .int w), (4, .int a)], [.int a, .ref 563], h', n, 0, 0)) (by with_unfolding_all rfl) ?_
            refine mc_iald hmi s1 (k := 563) (i := ((j + 1 : Nat) : Int)) (pc' := 125) rfl rfl rfl ha (by omega) (by omega) rfl (fun y62 e63 r64 r65 => ?_)
            rw [e63] at r64 r65
            refine mc_cx hmi 2 (F' := (128, [(0, .ref 542), (1, .int k), (3, .int w), (4, .int a)], [.int a, .ref 542, .int y62], h', n, 0, 0)) (by with_unfolding_all rfl) ?_
            refine mc_callP hmi (en := (128, .invokevirtual 191, 3, (3, 177, 11, 0), [1382, 88, 1380])) rfl (q := (mt_X11_worthBy, [.ref 542, .int a], [.int y62])) (mc_inv s1 (as := [.int a]) (rest := [.int y62]) rfl (by with_unfolding_all rfl) rfl rfl rfl) ⟨rfl, rfl⟩ (pc' := 131) rfl (mc_worthBy (by omega) s1 a hj ha) (fun y66 e67 => ?_)
            refine mc_cx hmi 3 (F' := (135, [(5, .int (y62 - y66)), (0, .ref 542), (1, .int k), (3, .int w), (4, .int a)], [.ref 542], h', n, 0, 0)) (by with_unfolding_all rfl) ?_
            refine mc_getr hmi s1 (k := 542) (c := 564) (pc' := 138) rfl rfl rfl rfl rfl ?_
            refine mc_cx hmi 1 (F' := (140, [(5, .int (y62 - y66)), (0, .ref 542), (1, .int k), (3, .int w), (4, .int a)], [.int a, .ref 564], h', n, 0, 0)) (by with_unfolding_all rfl) ?_
            refine mc_iald hmi s1 (k := 564) (i := ((j + 1 : Nat) : Int)) (pc' := 141) rfl rfl rfl ha (by omega) (by omega) rfl (fun y68 e69 r70 r71 => ?_)
            rw [e69] at r70 r71
            refine mc_cx hmi 1 (F' := (142, [(5, .int (y62 - y66)), (0, .ref 542), (1, .int k), (3, .int w), (4, .int a)], [.ref 542, .int y68], h', n, 0, 0)) (by with_unfolding_all rfl) ?_
            refine mc_getr hmi s1 (k := 542) (c := 560) (pc' := 145) rfl rfl rfl rfl rfl ?_
            refine mc_cx hmi 1 (F' := (147, [(5, .int (y62 - y66)), (0, .ref 542), (1, .int k), (3, .int w), (4, .int a)], [.int a, .ref 560, .int y68], h', n, 0, 0)) (by with_unfolding_all rfl) ?_
            refine mc_iald hmi s1 (k := 560) (i := ((j + 1 : Nat) : Int)) (pc' := 148) rfl rfl rfl ha (by omega) (by omega) rfl (fun y72 e73 r74 r75 => ?_)
            rw [e73] at r74 r75
            refine mc_cx hmi 2 (F' := (150, [(5, .int (y62 - y66)), (0, .ref 542), (1, .int k), (3, .int w), (4, .int a)], [.ref 542, .int (y68 + y72)], h', n, 0, 0)) (by with_unfolding_all rfl) ?_
            have e76 : (y68 + y72).toInt = ab_ri h' 564 (((j + 1 : Nat) : Int)) + ab_ri h' 560 (((j + 1 : Nat) : Int)) := mc_add e69 e73 (by omega) (by omega)
            refine mc_getr hmi s1 (k := 542) (c := 561) (pc' := 153) rfl rfl rfl rfl rfl ?_
            refine mc_cx hmi 1 (F' := (155, [(5, .int (y62 - y66)), (0, .ref 542), (1, .int k), (3, .int w), (4, .int a)], [.int a, .ref 561, .int (y68 + y72)], h', n, 0, 0)) (by with_unfolding_all rfl) ?_
            refine mc_iald hmi s1 (k := 561) (i := ((j + 1 : Nat) : Int)) (pc' := 156) rfl rfl rfl ha (by omega) (by omega) rfl (fun y77 e78 r79 r80 => ?_)
            rw [e78] at r79 r80
            refine mc_callP hmi (en := (156, .invokestatic 194, 3, (3, 176, 0, 0), [1385, 1384])) rfl (q := (mt_X11_signsOf, [.int y77], [.int (y68 + y72)])) (by with_unfolding_all rfl) ⟨rfl, rfl⟩ (pc' := 159) rfl (mc_signsOf (by omega) y77) (fun y81 e82 => ?_)
            rw [e78] at e82
            have hsg := sg_b (ab_ri h' 561 (((j + 1 : Nat) : Int)))
            refine mc_cx hmi 4 (F' := (166, [(6, .int ((y68 + y72) + y81)), (5, .int (y62 - y66)), (0, .ref 542), (1, .int k), (3, .int w), (4, .int a)], [.int (Int8.ofInt 24).toInt32, .int ((y68 + y72) + y81)], h', n, 0, 0)) (by with_unfolding_all rfl) ?_
            have e83 : ((y68 + y72) + y81).toInt = (ab_ri h' 564 (((j + 1 : Nat) : Int)) + ab_ri h' 560 (((j + 1 : Nat) : Int))) + sg (ab_ri h' 561 (((j + 1 : Nat) : Int))) := mc_add e76 e82 (by omega) (by omega)
            have hus : ((y68 + y72) + y81).toInt = ab_ri h' 564 ((j + 1 : Nat) : Int) + fS h' (j + 1) := by rw [e83]; unfold fS; omega
            have hu0 : 0 ≤ ((y68 + y72) + y81).toInt := by rw [e83]; omega
            have k190 : ∀ g : Int32, (g.toInt ≠ 0 → ((y68 + y72) + y81).toInt ≤ 24) → mc_R l G mt_X11_seek d Q (190, [(6, .int ((y68 + y72) + y81)), (5, .int (y62 - y66)), (0, .ref 542), (1, .int k), (3, .int w), (4, .int a)], [.int g], h', n, 0, 0) := by
              intro g hg
              refine mc_cx hmi 2 (F' := (194, [(7, .int g), (6, .int ((y68 + y72) + y81)), (5, .int (y62 - y66)), (0, .ref 542), (1, .int k), (3, .int w), (4, .int a)], [.int g], h', n, 0, 0)) (by with_unfolding_all rfl) ?_
              refine mc_cz hmi (c := .eq) (tg := 212) (pc' := 197) rfl rfl rfl rfl (fun (q84 : g.toInt = 0) => ?_) (fun (q84 : g.toInt ≠ 0) => ?_)
              · refine mc_cx hmi 1 (F' := (214, [(7, .int g), (6, .int ((y68 + y72) + y81)), (5, .int (y62 - y66)), (0, .ref 542), (1, .int k), (3, .int w), (4, .int a)], [.int g], h', n, 0, 0)) (by with_unfolding_all rfl) ?_
                refine mc_cz hmi (c := .eq) (tg := 233) (pc' := 217) rfl rfl rfl rfl (fun (q85 : g.toInt = 0) => ?_) (fun (q85 : g.toInt ≠ 0) => ?_)
                · refine mc_lvs (lv' := [(0, .ref 542), (1, .int k), (3, .int w), (4, .int a)]) (by simp) ?_
                  exact k233 h' s1 S (fun _ _ => ⟨rfl, rfl⟩) rfl
                · exact absurd q84 q85
              · refine mc_cx hmi 1 (F' := (199, [(7, .int g), (6, .int ((y68 + y72) + y81)), (5, .int (y62 - y66)), (0, .ref 542), (1, .int k), (3, .int w), (4, .int a)], [.int a], h', n, 0, 0)) (by with_unfolding_all rfl) ?_
                refine mc_cz hmi (c := .ne) (tg := 212) (pc' := 202) rfl rfl rfl ha (fun (q86 : ((j + 1 : Nat) : Int) ≠ 0) => ?_) (fun (q86 : ((j + 1 : Nat) : Int) = 0) => ?_)
                · have hgg := hg q84
                  refine mc_cx hmi 1 (F' := (214, [(7, .int g), (6, .int ((y68 + y72) + y81)), (5, .int (y62 - y66)), (0, .ref 542), (1, .int k), (3, .int w), (4, .int a)], [.int g], h', n, 0, 0)) (by with_unfolding_all rfl) ?_
                  refine mc_cz hmi (c := .eq) (tg := 233) (pc' := 217) rfl rfl rfl rfl (fun (q87 : g.toInt = 0) => ?_) (fun (q87 : g.toInt ≠ 0) => ?_)
                  · exact absurd q87 q84
                  · refine mc_cx hmi 5 (F' := (225, [(7, .int g), (6, .int ((y68 + y72) + y81)), (5, .int (y62 - y66)), (0, .ref 542), (1, .int k), (3, .int w), (4, .int a)], [.int ((y68 + y72) + y81), .int (y62 - y66), .int a, .int k, .ref 542], h', n, 0, 0)) (by with_unfolding_all rfl) ?_
                    refine mc_call hmi (en := (225, .invokevirtual 203, 3, (3, 181, 11, 0), [1401, 92, 1399])) rfl (q := (mt_X11_down, [.ref 542, .int k, .int a, .int (y62 - y66), .int ((y68 + y72) + y81)], [])) (mc_inv s1 (as := [.int k, .int a, .int (y62 - y66), .int ((y68 + y72) + y81)]) (rest := []) rfl (by with_unfolding_all rfl) rfl rfl rfl) ⟨rfl, rfl⟩ (pc' := 228) rfl (mc_mono (mc_down (by omega) s1 k a (y62 - y66) ((y68 + y72) + y81) hk0 hk1 hj ha hu0 hgg) ?_)
                    intro r2 h2 n2 P2
                    obtain ⟨e1, H2, f2, p2, u2, y2, rfl, hy2⟩ := P2
                    rw [e1]
                    show mc_R _ _ _ _ _ (228, [(7, .int g), (6, .int ((y68 + y72) + y81)), (5, .int (y62 - y66)), (0, .ref 542), (1, .int k), (3, .int w), (4, .int a)], [.int y2], h2, n, 0, 0)
                    refine mc_cx hmi 3 (F' := (60, [(4, .int y2), (7, .int g), (6, .int ((y68 + y72) + y81)), (5, .int (y62 - y66)), (0, .ref 542), (1, .int k), (3, .int w)], [], h2, n, 0, 0)) (by with_unfolding_all rfl) ?_
                    refine mc_lvs (lv' := [(0, .ref 542), (1, .int k), (3, .int w), (4, .int y2)]) (by simp) ?_
                    have g : ∀ (c : Nat) (i : Int), i ≠ (j : Int) → ab_ri h2 c i = ab_ri h' c i := fun c i hi => ab_ri_of (f2 c i (fun _ => hi) (fun _ => hi) (fun _ => hi) (fun _ => hi) (fun _ => hi))
                    have S2 : SK h h2 n j := by
                      refine ⟨H2, fun k' i' p1 p2 p3 p4 p5 p6 p7 p8 p9 => (f2 k' i' (fun q => absurd q p3) (fun q => absurd q p4) (fun q => absurd q p5) (fun q => absurd q p6) (fun q => absurd q p7)).trans (s2 k' i' p1 p2 p3 p4 p5 p6 p7 p8 p9), by rw [g 564 _ (by omega)]; exact s3, fun i h1 h2 => ?_⟩
                      by_cases e : i = j
                      · subst e
                        rw [u2, hus]
                        unfold fS
                        rw [g 564 _ (by omega), g 560 _ (by omega), g 561 _ (by omega)]
                        exact ⟨rfl, by omega⟩
                      · have := s4 i (by omega) h2
                        unfold fS at this ⊢
                        rw [g 564 _ (by omega), g 564 _ (by omega), g 560 _ (by omega), g 561 _ (by omega)]
                        exact this
                    refine ihj (by omega) _ h2 y2 S2 hy2 (Nat.le_refl _) (fun h3 a3 S3 ha3 A3 p3 => ?_)
                    have A3' : AB h' h3 (j + 1) := fun i hi => ⟨(A3 i (by omega)).1.trans (g 560 _ (by omega)), (A3 i (by omega)).2.trans (g 561 _ (by omega))⟩
                    have l3 : lvl h3 (j + 1) = lvl h' (j + 1) := by unfold lvl; rw [(A3 (j + 1) (by omega)).1, (A3 (j + 1) (by omega)).2, g 560 _ (by omega), g 561 _ (by omega)]
                    refine mc_cx hmi 2 (F' := (64, [(0, .ref 542), (1, .int k), (3, .int w), (4, .int a3)], [.int (Int8.ofInt 14).toInt32, .int a3], h3, n, 0, 0)) (by with_unfolding_all rfl) ?_
                    refine mc_ci hmi (c := .ge) (tg := 254) (pc' := 67) rfl rfl rfl ha3 (by decide) (fun (q88 : 14 ≤ (j : Int)) => ?_) (fun (q88 : (j : Int) < 14) => ?_)
                    · exact absurd q88 (by omega)
                    · refine mc_cx hmi 1 (F' := (68, [(0, .ref 542), (1, .int k), (3, .int w), (4, .int a3)], [.ref 542], h3, n, 0, 0)) (by with_unfolding_all rfl) ?_
                      refine mc_geti hmi S3.1 (k := 542) (j := 35) (pc' := 71) rfl rfl rfl rfl (fun y89 (e90 : y89.toInt = ab_ri h3 542 35) r91 r92 => ?_)
                      rw [e90] at r91 r92
                      refine mc_cx hmi 1 (F' := (74, [(0, .ref 542), (1, .int k), (3, .int w), (4, .int a3)], [.int (Int16.ofInt 5000).toInt32, .int y89], h3, n, 0, 0)) (by with_unfolding_all rfl) ?_
                      refine mc_ci hmi (c := .ge) (tg := 254) (pc' := 77) rfl rfl rfl e90 (by decide) (fun (q93 : 5000 ≤ ab_ri h3 542 35) => ?_) (fun (q93 : ab_ri h3 542 35 < 5000) => ?_)
                      · refine mc_lvs (lv' := [(0, .ref 542)]) (by simp) ?_
                        exact kx h3 S3.1 S3.2.1
                      · refine mc_cx hmi 1 (F' := (78, [(0, .ref 542), (1, .int k), (3, .int w), (4, .int a3)], [.ref 542], h3, n, 0, 0)) (by with_unfolding_all rfl) ?_
                        refine mc_getr hmi S3.1 (k := 542) (c := 560) (pc' := 81) rfl rfl rfl rfl rfl ?_
                        refine mc_cx hmi 1 (F' := (83, [(0, .ref 542), (1, .int k), (3, .int w), (4, .int a3)], [.int a3, .ref 560], h3, n, 0, 0)) (by with_unfolding_all rfl) ?_
                        refine mc_iald hmi S3.1 (k := 560) (i := (j : Int)) (pc' := 84) rfl rfl rfl ha3 (by omega) (by omega) rfl (fun y94 e95 r96 r97 => ?_)
                        rw [e95] at r96 r97
                        refine mc_cz hmi (c := .ge) (tg := 118) (pc' := 87) rfl rfl rfl e95 (fun (q98 : 0 ≤ ab_ri h3 560 ((j : Int))) => ?_) (fun (q98 : ab_ri h3 560 ((j : Int)) < 0) => ?_)
                        · exact absurd q98 (by omega)
                        · refine mc_cx hmi 3 (F' := (94, [(4, .int (a3 + Int32.ofInt 1)), (0, .ref 542), (1, .int k), (3, .int w)], [.int (Int8.ofInt 14).toInt32, .int (a3 + Int32.ofInt 1)], h3, n, 0, 0)) (by with_unfolding_all rfl) ?_
                          have e99 : (a3 + Int32.ofInt 1).toInt = (j : Int) + 1 := mc_add ha3 (by decide) (by omega) (by omega)
                          have ea4 : (a3 + Int32.ofInt 1).toInt = ((j + 1 : Nat) : Int) := by rw [e99]; omega
                          refine mc_ci hmi (c := .ge) (tg := 60) (pc' := 97) rfl rfl rfl ea4 (by decide) (fun (q100 : 14 ≤ ((j + 1 : Nat) : Int)) => ?_) (fun (q100 : ((j + 1 : Nat) : Int) < 14) => ?_)
                          · exact absurd q100 (by omega)
                          · refine mc_cx hmi 3 (F' := (101, [(4, .int (a3 + Int32.ofInt 1)), (0, .ref 542), (1, .int k), (3, .int w)], [.int (a3 + Int32.ofInt 1), .int k, .ref 542], h3, n, 0, 0)) (by with_unfolding_all rfl) ?_
                            refine mc_call hmi (en := (101, .invokevirtual 188, 3, (3, 179, 11, 0), [1374, 86, 1372])) rfl (q := (mt_X11_nextWay, [.ref 542, .int k, .int (a3 + Int32.ofInt 1)], [])) (mc_inv S3.1 (as := [.int k, .int (a3 + Int32.ofInt 1)]) (rest := []) rfl (by with_unfolding_all rfl) rfl rfl rfl) ⟨rfl, rfl⟩ (pc' := 104) rfl (mc_mono (mc_nextWay (by omega) S3.1 k (a3 + Int32.ofInt 1) hk0 hk1 hj ea4) ?_)
                            intro r6 h6 n6 P6
                            obtain ⟨e6, H6, f6, y6, rfl, hy6⟩ := P6
                            rw [e6]
                            show mc_R _ _ _ _ _ (104, [(4, .int (a3 + Int32.ofInt 1)), (0, .ref 542), (1, .int k), (3, .int w)], [.int y6], h6, n, 0, 0)
                            obtain ⟨S6, A6⟩ := SK_lev S3 (by omega) H6 f6
                            have l0 := l3
                            have ab0 := A3'
                            refine mc_cz hmi (c := .ne) (tg := 60) (pc' := 107) rfl rfl rfl rfl (fun (q101 : y6.toInt ≠ 0) => ?_) (fun (q101 : y6.toInt = 0) => ?_)
                            · refine mc_lvs (lv' := [(0, .ref 542), (1, .int k), (3, .int w), (4, .int (a3 + Int32.ofInt 1))]) (by simp) ?_
                              have l6 : lvl h6 (j + 1) < lvl h3 (j + 1) := hy6.elim (fun q => absurd q q101) (fun q => q.2.2)
                              refine ih h6 (a3 + Int32.ofInt 1) S6 ea4 (by omega) (fun h7 a7 S7 ha7 A7 p7 => kk h7 a7 S7 ha7 (fun i hi => ?_) p7)
                              exact ⟨((A7 i hi).1.trans (A6 i hi).1).trans (ab0 i hi).1, ((A7 i hi).2.trans (A6 i hi).2).trans (ab0 i hi).2⟩
                            · refine mc_cx hmi 1 (F' := (108, [(4, .int (a3 + Int32.ofInt 1)), (0, .ref 542), (1, .int k), (3, .int w)], [.ref 542], h6, n, 0, 0)) (by with_unfolding_all rfl) ?_
                              refine mc_getr hmi H6 (k := 542) (c := 560) (pc' := 111) rfl rfl rfl rfl rfl ?_
                              refine mc_cx hmi 2 (F' := (114, [(4, .int (a3 + Int32.ofInt 1)), (0, .ref 542), (1, .int k), (3, .int w)], [.int (Int32.ofInt (-1)), .int (a3 + Int32.ofInt 1), .ref 560], h6, n, 0, 0)) (by with_unfolding_all rfl) ?_
                              refine mc_iast hmi H6 (k := 560) (i := ((j + 1 : Nat) : Int)) (pc' := 115) rfl rfl rfl ea4 (by omega) (by omega) (by rw [show ((Int32.ofInt (-1))).toInt = (-1) from by decide]; omega) (by rw [show ((Int32.ofInt (-1))).toInt = (-1) from by decide]; omega) rfl (fun h102 H103 w104 => ?_)
                              refine mc_cx hmi 1 (F' := (60, [(4, .int (a3 + Int32.ofInt 1)), (0, .ref 542), (1, .int k), (3, .int w)], [], h102, n, 0, 0)) (by with_unfolding_all rfl) ?_
                              refine mc_lvs (lv' := [(0, .ref 542), (1, .int k), (3, .int w), (4, .int (a3 + Int32.ofInt 1))]) (by simp) ?_
                              have f8 : NWf h6 h102 (j + 1) := fun k' i' p1 p2 => by rw [w104, if_neg (fun q => p1 q.1 q.2)]
                              obtain ⟨S8, A8⟩ := SK_lev S6 (Nat.le_refl _) H103 f8
                              exact kk h102 (a3 + Int32.ofInt 1) S8 ea4 (fun i hi => ⟨((A8 i hi).1.trans (A6 i hi).1).trans (ab0 i hi).1, ((A8 i hi).2.trans (A6 i hi).2).trans (ab0 i hi).2⟩) (by rw [mc_ri w104, if_pos ⟨rfl, rfl⟩]; decide)
                · exact absurd q86 (by omega)
            refine mc_ci hmi (c := .gt) (tg := 189) (pc' := 169) rfl rfl rfl e83 (by decide) (fun (q105 : 24 < ((ab_ri h' 564 (((j + 1 : Nat) : Int)) + ab_ri h' 560 (((j + 1 : Nat) : Int))) + sg (ab_ri h' 561 (((j + 1 : Nat) : Int))))) => ?_) (fun (q105 : ((ab_ri h' 564 (((j + 1 : Nat) : Int)) + ab_ri h' 560 (((j + 1 : Nat) : Int))) + sg (ab_ri h' 561 (((j + 1 : Nat) : Int)))) ≤ 24) => ?_)
            · refine mc_cx hmi 1 (F' := (190, [(6, .int ((y68 + y72) + y81)), (5, .int (y62 - y66)), (0, .ref 542), (1, .int k), (3, .int w), (4, .int a)], [.int (Int32.ofInt 0)], h', n, 0, 0)) (by with_unfolding_all rfl) ?_
              exact k190 _ (fun q => absurd (by decide) q)
            · have hle : ((y68 + y72) + y81).toInt ≤ 24 := by rw [e83]; exact q105
              refine mc_cx hmi 6 (F' := (179, [(6, .int ((y68 + y72) + y81)), (5, .int (y62 - y66)), (0, .ref 542), (1, .int k), (3, .int w), (4, .int a)], [.int ((Int8.ofInt 24).toInt32 - ((y68 + y72) + y81)), .int (y62 - y66), .int a, .ref 542], h', n, 0, 0)) (by with_unfolding_all rfl) ?_
              have e106 : ((Int8.ofInt 24).toInt32 - ((y68 + y72) + y81)).toInt = 24 - ((ab_ri h' 564 (((j + 1 : Nat) : Int)) + ab_ri h' 560 (((j + 1 : Nat) : Int))) + sg (ab_ri h' 561 (((j + 1 : Nat) : Int)))) := mc_sub (by decide) e83 (by omega) (by omega)
              refine mc_callP hmi (en := (179, .invokevirtual 197, 3, (3, 175, 11, 0), [1389, 89, 1387])) rfl (q := (mt_X11_mayCome, [.ref 542, .int a, .int (y62 - y66), .int ((Int8.ofInt 24).toInt32 - ((y68 + y72) + y81))], [])) (mc_inv s1 (as := [.int a, .int (y62 - y66), .int ((Int8.ofInt 24).toInt32 - ((y68 + y72) + y81))]) (rest := []) rfl (by with_unfolding_all rfl) rfl rfl rfl) ⟨rfl, rfl⟩ (pc' := 182) rfl (mc_mayCome (by omega) s1 a (y62 - y66) ((Int8.ofInt 24).toInt32 - ((y68 + y72) + y81)) hj ha) (fun y107 e108 => ?_)
              refine mc_cz hmi (c := .eq) (tg := 189) (pc' := 185) rfl rfl rfl rfl (fun (q109 : y107.toInt = 0) => ?_) (fun (q109 : y107.toInt ≠ 0) => ?_)
              · refine mc_cx hmi 1 (F' := (190, [(6, .int ((y68 + y72) + y81)), (5, .int (y62 - y66)), (0, .ref 542), (1, .int k), (3, .int w), (4, .int a)], [.int (Int32.ofInt 0)], h', n, 0, 0)) (by with_unfolding_all rfl) ?_
                exact k190 _ (fun q => absurd (by decide) q)
              · refine mc_cx hmi 2 (F' := (190, [(6, .int ((y68 + y72) + y81)), (5, .int (y62 - y66)), (0, .ref 542), (1, .int k), (3, .int w), (4, .int a)], [.int (Int32.ofInt 1)], h', n, 0, 0)) (by with_unfolding_all rfl) ?_
                exact k190 _ (fun _ => hle)
          · exact absurd q57 hP
end
