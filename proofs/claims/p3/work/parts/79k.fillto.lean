/-! ===== by hand: fillTo's loop, fillAll, in the reference (ways printed by wip/hand/h_fillto.py) ===== -/
set_option maxRecDepth 100000 in
theorem ft_loop {l : Launch} {G : ax_T} {d : Nat} {h : ax_H} {n : Nat} (hd : 3 ≤ d) (H : mc_HW h n) (k s : Int32) (hk0 : 0 ≤ k.toInt) (hk1 : k.toInt ≤ 5) {N : Nat} (hs : s.toInt = (N : Int)) (hN : N ≤ 21) (hS0 : 0 ≤ ab_ri h 542 37) (hB : ab_ri h 542 37 + (psi (Pf (fo h) N) (Pf (fo h) N) : Int) ≤ 40000) : ∀ (c : Nat) (h' : ax_H) (a : Int32) (j : Nat), a.toInt = (j : Int) → j < N → FIv h h' n N j → FM h h' N j ≤ c → mc_R l G mt_X11_fillTo d (QF h n N) (13, [(0, .ref 542), (1, .int k), (2, .int s), (3, .int a)], [], h', n, 0, 0) := by
  have hmi : mt_X11_fillTo ∈ mt_prog := List.mem_of_getElem? mi_X11_fillTo
  have hp : 0 ≤ ab_ri h 542 14 ∧ ab_ri h 542 14 ≤ 20 := mc_frng H (k := 542) (j := 14) (ci := 11) rfl rfl
  intro c
  induction c with
  | zero =>
    intro h' a j ha hj I hM
    have : 1 ≤ FM h h' N j := by unfold FM; split <;> omega
    omega
  | succ c ih =>
    intro h' a j ha hj I hM
    obtain ⟨i1, i2, i3, i4, i5, i6, i7⟩ := id I
    refine mc_cx hmi 1 (F' := (14, [(0, .ref 542), (1, .int k), (2, .int s), (3, .int a)], [.int a], h', n, 0, 0)) (by with_unfolding_all rfl) ?_
    refine mc_cz hmi (c := .lt) (tg := 134) (pc' := 17) rfl rfl rfl ha (fun (q1 : (j : Int) < 0) => ?_) (fun (q1 : 0 ≤ (j : Int)) => ?_)
    · exact absurd q1 (by omega)
    · refine mc_cx hmi 1 (F' := (18, [(0, .ref 542), (1, .int k), (2, .int s), (3, .int a)], [.ref 542], h', n, 0, 0)) (by with_unfolding_all rfl) ?_
      refine mc_getr hmi i1 (k := 542) (c := 571) (pc' := 21) rfl rfl rfl rfl rfl ?_
      refine mc_cx hmi 1 (F' := (22, [(0, .ref 542), (1, .int k), (2, .int s), (3, .int a)], [.int a, .ref 571], h', n, 0, 0)) (by with_unfolding_all rfl) ?_
      refine mc_iald hmi i1 (k := 571) (i := (j : Int)) (pc' := 23) rfl rfl rfl ha (by omega) (by omega) rfl (fun y2 e3 r4 r5 => ?_)
      rw [e3] at r4 r5
      refine mc_cx hmi 1 (F' := (25, [(0, .ref 542), (1, .int k), (2, .int s), (3, .int a)], [.int (Int8.ofInt 14).toInt32, .int y2], h', n, 0, 0)) (by with_unfolding_all rfl) ?_
      refine mc_ci hmi (c := .ne) (tg := 49) (pc' := 28) rfl rfl rfl e3 (by decide) (fun (q6 : ab_ri h' 571 ((j : Int)) ≠ 14) => ?_) (fun (q6 : ab_ri h' 571 ((j : Int)) = 14) => ?_)
      · have h13 : ab_ri h' 571 (j : Int) ≤ 13 := by have := i4.2; omega
        have hall : ∀ z : Int, 0 ≤ z → z < (j : Int) + 1 → 0 ≤ ab_ri h' 571 z ∧ ab_ri h' 571 z ≤ 13 := by
          intro z z0 z1
          by_cases e : z = (j : Int)
          · rw [e]; exact ⟨i4.1, h13⟩
          · have := i3 z.toNat (by omega); rw [show ((z.toNat : Nat) : Int) = z by omega] at this; exact this
        have hNl := NN_lt (o := fo h) (dg := dgs h') (s := N) hj (fun i hi => by have := hall (i : Int) (by omega) (by omega); unfold dgs; omega)
        have hW := Wc_pos (o := fo h) (s := N) (N - (j + 1))
        have b0 : ab_ri h' 542 37 ≤ ab_ri h 542 37 + (psi (Pf (fo h) N) (NN (fo h) (dgs h') N j + Wc (fo h) N (N - (j + 1))) : Int) := by have := psi_mono (T := Pf (fo h) N) (Nat.le_add_right (NN (fo h) (dgs h') N j) (Wc (fo h) N (N - (j + 1)))); omega
        refine mc_cx hmi 2 (F' := (51, [(0, .ref 542), (1, .int k), (2, .int s), (3, .int a)], [.ref 542, .ref 542], h', n, 0, 0)) (by with_unfolding_all rfl) ?_
        refine mc_getr hmi i1 (k := 542) (c := 571) (pc' := 54) rfl rfl rfl rfl rfl ?_
        refine mc_cx hmi 9 (F' := (63, [(0, .ref 542), (1, .int k), (2, .int s), (3, .int a)], [.int s, .int (a + (Int32.ofInt 1)), .int k, .int (a + (Int32.ofInt 1)), .int (Int32.ofInt 0), .ref 571, .ref 542], h', n, 0, 0)) (by with_unfolding_all rfl) ?_
        have e18 : (a + (Int32.ofInt 1)).toInt = (j : Int) + 1 := mc_add ha (by decide) (by omega) (by omega)
        have e19 : (a + (Int32.ofInt 1)).toInt = (j : Int) + 1 := mc_add ha (by decide) (by omega) (by omega)
        have key : ∀ u : Int32, (j + 1 = N → u.toInt ≠ 0) → mc_R l G mt_X11_fillTo d (QF h n N) (71, [(0, .ref 542), (1, .int k), (2, .int s), (3, .int a)], [.int u, .int k, .int (a + (Int32.ofInt 1)), .int (Int32.ofInt 0), .ref 571, .ref 542], h', n, 0, 0) := by
          intro u hu
          refine mc_callP hmi (en := (71, .invokevirtual 162, 3, (3, 168, 11, 0), [1338, 80, 1336])) rfl (q := (mt_X11_keepsAll, [.ref 542, .ref 571, .int (Int32.ofInt 0), .int (a + (Int32.ofInt 1)), .int k, .int u], [])) (mc_inv i1 (as := [.ref 571, .int (Int32.ofInt 0), .int (a + (Int32.ofInt 1)), .int k, .int u]) (rest := []) rfl (by with_unfolding_all rfl) rfl rfl rfl) ⟨rfl, rfl⟩ (pc' := 74) rfl (mc_keepsAll hd i1 (Int32.ofInt 0) (a + (Int32.ofInt 1)) k u (by decide) (by rw [e19]; omega) (by rw [e19]; omega) hk0 hk1 (by rw [e19]; exact hall)) (fun y20 e21 => ?_)
          refine mc_cz hmi (c := .ne) (tg := 91) (pc' := 77) rfl rfl rfl rfl (fun (q22 : y20.toInt ≠ 0) => ?_) (fun (q22 : y20.toInt = 0) => ?_)
          · refine mc_cx hmi 4 (F' := (95, [(0, .ref 542), (1, .int k), (2, .int s), (3, .int a)], [.int s, .int (a + (Int32.ofInt 1))], h', n, 0, 0)) (by with_unfolding_all rfl) ?_
            have e30 : (a + (Int32.ofInt 1)).toInt = (j : Int) + 1 := mc_add ha (by decide) (by omega) (by omega)
            refine mc_ci hmi (c := .ne) (tg := 117) (pc' := 98) rfl rfl rfl e30 hs (fun (q31 : ((j : Int) + 1) ≠ (N : Int)) => ?_) (fun (q31 : ((j : Int) + 1) = (N : Int)) => ?_)
            · refine mc_cx hmi 2 (F' := (121, [(3, .int (a + Int32.ofInt 1)), (0, .ref 542), (1, .int k), (2, .int s)], [.ref 542], h', n, 0, 0)) (by with_unfolding_all rfl) ?_
              have e32 : (a + Int32.ofInt 1).toInt = (j : Int) + 1 := mc_add ha (by decide) (by omega) (by omega)
              refine mc_getr hmi i1 (k := 542) (c := 571) (pc' := 124) rfl rfl rfl rfl rfl ?_
              refine mc_cx hmi 3 (F' := (127, [(3, .int (a + Int32.ofInt 1)), (0, .ref 542), (1, .int k), (2, .int s)], [.int (a + Int32.ofInt 1), .ref 542, .int (a + Int32.ofInt 1), .ref 571], h', n, 0, 0)) (by with_unfolding_all rfl) ?_
              have ea : (a + Int32.ofInt 1).toInt = ((j + 1 : Nat) : Int) := by rw [e32]; omega
              refine mc_callP hmi (en := (127, .invokevirtual 257, 3, (3, 208, 11, 0), [1494, 100, 1492])) rfl (q := (mt_X11_first, [.ref 542, .int (a + Int32.ofInt 1)], [.int (a + Int32.ofInt 1), .ref 571])) (mc_inv i1 (as := [.int (a + Int32.ofInt 1)]) (rest := [.int (a + Int32.ofInt 1), .ref 571]) rfl (by with_unfolding_all rfl) rfl rfl rfl) ⟨rfl, rfl⟩ (pc' := 130) rfl (mc_first (by omega) i1 (a + Int32.ofInt 1) ea) (fun y33 e34 => ?_)
              have hv : y33.toInt = if fo h (j + 1) then 0 else ab_ri h 554 ((j + 1 : Nat) : Int) := by rw [e34, FRF_fo i2, show ab_ri h' 554 ((j + 1 : Nat) : Int) = ab_ri h 554 ((j + 1 : Nat) : Int) from ab_ri_of (i2 554 _ (by decide) (by decide) (by decide) (by decide) (fun q => absurd q (by decide)))]
              have hv0 : 0 ≤ y33.toInt ∧ y33.toInt ≤ 13 := by
                rw [hv]
                cases ho : fo h (j + 1) with
                | true => rw [if_pos rfl]; omega
                | false =>
                  unfold fo at ho
                  rw [Bool.or_eq_false_iff] at ho
                  have o1 := of_decide_eq_false ho.1
                  have o2 := of_decide_eq_false ho.2
                  have o3 := mc_rng H (k := 554) (i := ((j + 1 : Nat) : Int)) rfl rfl (by omega) (by omega)
                  rw [if_neg (show ¬ (false = true) by decide)]
                  omega
              have b35 := Int32.le_toInt (y33)
              have b36 := Int32.toInt_lt (y33)
              refine mc_iast hmi i1 (k := 571) (i := ((j + 1 : Nat) : Int)) (pc' := 131) rfl rfl rfl ea (by omega) (by omega) (by rw [show (y33).toInt = y33.toInt from rfl]; omega) (by rw [show (y33).toInt = y33.toInt from rfl]; omega) rfl (fun h37 H38 w39 => ?_)
              refine mc_cx hmi 1 (F' := (13, [(3, .int (a + Int32.ofInt 1)), (0, .ref 542), (1, .int k), (2, .int s)], [], h37, n, 0, 0)) (by with_unfolding_all rfl) ?_
              refine mc_lvs (lv' := [(0, .ref 542), (1, .int k), (2, .int s), (3, .int (a + Int32.ofInt 1))]) (by simp) ?_
              obtain ⟨I2, M2⟩ := FD I (by omega) h13 H38 w39 hv hv0.1 hv0.2 hM (by omega)
              exact ih h37 (a + Int32.ofInt 1) (j + 1) ea (by omega) I2 M2
            · have eN : N = j + 1 := by omega
              have hK := e21.2 (e21.1.elim (fun q => absurd q q22) (fun q => q)) (hu eN.symm)
              rw [e30] at hK
              have hW1 : Wc (fo h) N (N - (j + 1)) = 1 := by rw [show N - (j + 1) = 0 by omega]; rfl
              have hH : NN (fo h) (dgs h') N j = Hn (fo h) (dgs h') N := by unfold NN; rw [hW1, Nat.mul_one, ← eN]
              have h4 : Pf (fo h) N = 38416 → NN (fo h) (dgs h') N j < 196 ∨ 2744 ≤ NN (fo h) (dgs h') N j := by
                intro hT
                rw [hH]
                refine four hT (fun i hi => ?_) (fun p q p1 p2 p3 => ?_)
                · have := hall (i : Int) (by omega) (by omega); unfold dgs; omega
                · have q1 := hall (p : Int) (by omega) (by omega)
                  have q2 := hK (p : Int) (q : Int) (by omega) (by omega) (by omega) (by omega) (by unfold dgs at p3; omega)
                  unfold dgs; rw [q2]; rfl
              have hps := psi_s h4
              have hpm := psi_mono (T := Pf (fo h) N) (show NN (fo h) (dgs h') N j + 1 ≤ Pf (fo h) N by omega)
              refine mc_cx hmi 2 (F' := (100, [(0, .ref 542), (1, .int k), (2, .int s), (3, .int a)], [.int s, .ref 542], h', n, 0, 0)) (by with_unfolding_all rfl) ?_
              refine mc_call hmi (en := (100, .invokevirtual 263, 3, (3, 210, 11, 0), [1506, 103, 1504])) rfl (q := (mt_X11_take, [.ref 542, .int s], [])) (mc_inv i1 (as := [.int s]) (rest := []) rfl (by with_unfolding_all rfl) rfl rfl rfl) ⟨rfl, rfl⟩ (pc' := 103) rfl (mc_mono (mc_take (by omega) i1 s (by omega) (by omega) (fun z z0 z1 => (hall z z0 (by omega)).2) (by omega) (by omega) i6) ?_)
              intro r1 h1 n1 P1
              obtain ⟨e1, e2, t1, t2, t3, t4, t5⟩ := P1
              rw [e1, e2]
              show mc_R _ _ _ _ _ (103, [(0, .ref 542), (1, .int k), (2, .int s), (3, .int a)], [], h1, n, 0, 0)
              have f1 : FRF h h1 := fun k' i' p1 p2 p3 p4 p5 => (t5 k' i' p1 p2 p3 p5).trans (i2 k' i' p1 p2 p3 p4 p5)
              have g1 : ∀ z : Int, ab_ri h1 571 z = ab_ri h' 571 z := fun z => ab_ri_of (t5 571 z (by decide) (by decide) (by decide) (fun q => absurd q (by decide)))
              refine mc_cx hmi 1 (F' := (104, [(0, .ref 542), (1, .int k), (2, .int s), (3, .int a)], [.ref 542], h1, n, 0, 0)) (by with_unfolding_all rfl) ?_
              refine mc_getr hmi t1 (k := 542) (c := 571) (pc' := 107) rfl rfl rfl rfl rfl ?_
              refine mc_cx hmi 3 (F' := (110, [(0, .ref 542), (1, .int k), (2, .int s), (3, .int a)], [.int a, .ref 542, .int a, .ref 571], h1, n, 0, 0)) (by with_unfolding_all rfl) ?_
              refine mc_callP hmi (en := (110, .invokevirtual 260, 3, (3, 209, 11, 0), [1502, 102, 1500])) rfl (q := (mt_X11_after, [.ref 542, .int a], [.int a, .ref 571])) (mc_inv t1 (as := [.int a]) (rest := [.int a, .ref 571]) rfl (by with_unfolding_all rfl) rfl rfl rfl) ⟨rfl, rfl⟩ (pc' := 113) rfl (mc_after (by omega) t1 a ha (by omega)) (fun y40 e41 => ?_)
              have hv : y40.toInt = if fo h j then ab_ri h1 571 (j : Int) + 1 else 14 := by rw [e41, FRF_fo f1]
              rw [g1] at hv
              have hv0 : 0 ≤ y40.toInt ∧ y40.toInt ≤ 14 := by rw [hv]; split <;> omega
              have b42 := Int32.le_toInt (y40)
              have b43 := Int32.toInt_lt (y40)
              refine mc_iast hmi t1 (k := 571) (i := (j : Int)) (pc' := 114) rfl rfl rfl ha (by omega) (by omega) (by rw [show (y40).toInt = y40.toInt from rfl]; omega) (by rw [show (y40).toInt = y40.toInt from rfl]; omega) rfl (fun h44 H45 w46 => ?_)
              refine mc_cx hmi 1 (F' := (13, [(0, .ref 542), (1, .int k), (2, .int s), (3, .int a)], [], h44, n, 0, 0)) (by with_unfolding_all rfl) ?_
              refine mc_lvs (lv' := [(0, .ref 542), (1, .int k), (2, .int s), (3, .int a)]) (by simp) ?_
              obtain ⟨I2, M2⟩ := FA hN I hj h13 H45 f1 (fun i _ => g1 _) w46 hv t2 (by omega) (by rw [hW1]; omega) hM
              exact ih h44 a j ha hj I2 M2
          · refine mc_cx hmi 1 (F' := (78, [(0, .ref 542), (1, .int k), (2, .int s), (3, .int a)], [.ref 542], h', n, 0, 0)) (by with_unfolding_all rfl) ?_
            refine mc_getr hmi i1 (k := 542) (c := 571) (pc' := 81) rfl rfl rfl rfl rfl ?_
            refine mc_cx hmi 3 (F' := (84, [(0, .ref 542), (1, .int k), (2, .int s), (3, .int a)], [.int a, .ref 542, .int a, .ref 571], h', n, 0, 0)) (by with_unfolding_all rfl) ?_
            refine mc_callP hmi (en := (84, .invokevirtual 260, 3, (3, 209, 11, 0), [1502, 102, 1500])) rfl (q := (mt_X11_after, [.ref 542, .int a], [.int a, .ref 571])) (mc_inv i1 (as := [.int a]) (rest := [.int a, .ref 571]) rfl (by with_unfolding_all rfl) rfl rfl rfl) ⟨rfl, rfl⟩ (pc' := 87) rfl (mc_after (by omega) i1 a ha (by omega)) (fun y23 e24 => ?_)
            have hv : y23.toInt = if fo h j then ab_ri h' 571 (j : Int) + 1 else 14 := by rw [e24, FRF_fo i2]
            have hv0 : 0 ≤ y23.toInt ∧ y23.toInt ≤ 14 := by rw [hv]; split <;> omega
            have b25 := Int32.le_toInt (y23)
            have b26 := Int32.toInt_lt (y23)
            refine mc_iast hmi i1 (k := 571) (i := (j : Int)) (pc' := 88) rfl rfl rfl ha (by omega) (by omega) (by rw [show (y23).toInt = y23.toInt from rfl]; omega) (by rw [show (y23).toInt = y23.toInt from rfl]; omega) rfl (fun h27 H28 w29 => ?_)
            refine mc_cx hmi 1 (F' := (13, [(0, .ref 542), (1, .int k), (2, .int s), (3, .int a)], [], h27, n, 0, 0)) (by with_unfolding_all rfl) ?_
            refine mc_lvs (lv' := [(0, .ref 542), (1, .int k), (2, .int s), (3, .int a)]) (by simp) ?_
            obtain ⟨I2, M2⟩ := FA hN I hj h13 H28 i2 (fun _ _ => rfl) w29 hv (Int.le_refl _) i6 b0 hM
            exact ih h27 a j ha hj I2 M2
        refine mc_ci hmi (c := .ne) (tg := 70) (pc' := 66) rfl rfl rfl e19 hs (fun (q47 : ((j : Int) + 1) ≠ (N : Int)) => ?_) (fun (q47 : ((j : Int) + 1) = (N : Int)) => ?_)
        · refine mc_cx hmi 1 (F' := (71, [(0, .ref 542), (1, .int k), (2, .int s), (3, .int a)], [.int (Int32.ofInt 0), .int k, .int (a + (Int32.ofInt 1)), .int (Int32.ofInt 0), .ref 571, .ref 542], h', n, 0, 0)) (by with_unfolding_all rfl) ?_
          exact key _ (fun q => absurd q47 (by omega))
        · refine mc_cx hmi 2 (F' := (71, [(0, .ref 542), (1, .int k), (2, .int s), (3, .int a)], [.int (Int32.ofInt 1), .int k, .int (a + (Int32.ofInt 1)), .int (Int32.ofInt 0), .ref 571, .ref 542], h', n, 0, 0)) (by with_unfolding_all rfl) ?_
          exact key _ (fun _ => by decide)
      · have h14 : ab_ri h' 571 (j : Int) = 14 := q6
        refine mc_cx hmi 2 (F' := (32, [(3, .int (a + Int32.ofInt (-1))), (0, .ref 542), (1, .int k), (2, .int s)], [.int (a + Int32.ofInt (-1))], h', n, 0, 0)) (by with_unfolding_all rfl) ?_
        have e7 : (a + Int32.ofInt (-1)).toInt = (j : Int) + (-1) := mc_add ha (by decide) (by omega) (by omega)
        generalize (a + Int32.ofInt (-1)) = z8 at e7 ⊢
        refine mc_cz hmi (c := .lt) (tg := 13) (pc' := 35) rfl rfl rfl e7 (fun (q9 : ((j : Int) + (-1)) < 0) => ?_) (fun (q9 : 0 ≤ ((j : Int) + (-1))) => ?_)
        · have ej : j = 0 := by omega
          refine mc_cx hmi 1 (F' := (14, [(3, .int z8), (0, .ref 542), (1, .int k), (2, .int s)], [.int z8], h', n, 0, 0)) (by with_unfolding_all rfl) ?_
          refine mc_cz hmi (c := .lt) (tg := 134) (pc' := 17) rfl rfl rfl e7 (fun (q10 : ((j : Int) + (-1)) < 0) => ?_) (fun (q10 : 0 ≤ ((j : Int) + (-1))) => ?_)
          · subst ej
            refine mc_ret hmi rfl rfl rfl ⟨rfl, rfl, i1, i2, i5, i6, ?_⟩
            rw [NN_last (by omega) (show dgs h' 0 = 14 by unfold dgs; rw [h14]; rfl)] at i7
            exact i7
          · exact absurd q10 (by omega)
        · obtain ⟨j, rfl⟩ : ∃ j', j = j' + 1 := ⟨j - 1, by omega⟩
          have ea : z8.toInt = (j : Int) := by rw [e7]; omega
          refine mc_cx hmi 1 (F' := (36, [(3, .int z8), (0, .ref 542), (1, .int k), (2, .int s)], [.ref 542], h', n, 0, 0)) (by with_unfolding_all rfl) ?_
          refine mc_getr hmi i1 (k := 542) (c := 571) (pc' := 39) rfl rfl rfl rfl rfl ?_
          refine mc_cx hmi 3 (F' := (42, [(3, .int z8), (0, .ref 542), (1, .int k), (2, .int s)], [.int z8, .ref 542, .int z8, .ref 571], h', n, 0, 0)) (by with_unfolding_all rfl) ?_
          refine mc_callP hmi (en := (42, .invokevirtual 260, 3, (3, 209, 11, 0), [1502, 102, 1500])) rfl (q := (mt_X11_after, [.ref 542, .int z8], [.int z8, .ref 571])) (mc_inv i1 (as := [.int z8]) (rest := [.int z8, .ref 571]) rfl (by with_unfolding_all rfl) rfl rfl rfl) ⟨rfl, rfl⟩ (pc' := 45) rfl (mc_after (by omega) i1 z8 ea (by omega)) (fun y11 e12 => ?_)
          have hv : y11.toInt = if fo h j then ab_ri h' 571 (j : Int) + 1 else 14 := by rw [e12, FRF_fo i2]
          have hv0 : 0 ≤ y11.toInt ∧ y11.toInt ≤ 14 := by have := i3 j (by omega); rw [hv]; split <;> omega
          have b13 := Int32.le_toInt (y11)
          have b14 := Int32.toInt_lt (y11)
          refine mc_iast hmi i1 (k := 571) (i := (j : Int)) (pc' := 46) rfl rfl rfl ea (by omega) (by omega) (by rw [show (y11).toInt = y11.toInt from rfl]; omega) (by rw [show (y11).toInt = y11.toInt from rfl]; omega) rfl (fun h15 H16 w17 => ?_)
          refine mc_cx hmi 1 (F' := (13, [(3, .int z8), (0, .ref 542), (1, .int k), (2, .int s)], [], h15, n, 0, 0)) (by with_unfolding_all rfl) ?_
          refine mc_lvs (lv' := [(0, .ref 542), (1, .int k), (2, .int s), (3, .int z8)]) (by simp) ?_
          obtain ⟨I2, M2⟩ := FP I hj h14 H16 w17 hv hM (by omega)
          exact ih h15 z8 j ea (by omega) I2 M2
set_option maxRecDepth 100000 in
theorem mc_fillTo {l : Launch} {G : ax_T} {d : Nat} {h : ax_H} {n : Nat} (hd : 4 ≤ d) (H : mc_HW h n) (k s : Int32) (hk0 : 0 ≤ k.toInt) (hk1 : k.toInt ≤ 5) {N : Nat} (hs : s.toInt = (N : Int)) (hN : N ≤ 21) (hN1 : 1 ≤ N) (hS0 : 0 ≤ ab_ri h 542 37) (hnz : (nz (ab_ri h 569) 131072 : Int) ≤ ab_ri h 542 37) (hB : ab_ri h 542 37 + (psi (Pf (fo h) N) (Pf (fo h) N) : Int) ≤ 40000) : mc_M l G d mt_X11_fillTo [.ref 542, .int k, .int s] h n (QF h n N) := by
  obtain ⟨d, rfl⟩ : ∃ e, d = e + 1 := ⟨d - 1, by omega⟩
  have hmi : mt_X11_fillTo ∈ mt_prog := List.mem_of_getElem? mi_X11_fillTo
  have hp : 0 ≤ ab_ri h 542 14 ∧ ab_ri h 542 14 ≤ 20 := mc_frng H (k := 542) (j := 14) (ci := 11) rfl rfl
  refine mc_to hmi rfl ?_
  show mc_R _ _ _ _ _ (0, [(0, .ref 542), (1, .int k), (2, .int s)], [], h, n, 0, 0)
  refine mc_cx hmi 3 (F' := (3, [(3, .int (Int32.ofInt 0)), (0, .ref 542), (1, .int k), (2, .int s)], [.ref 542], h, n, 0, 0)) (by with_unfolding_all rfl) ?_
  refine mc_getr hmi H (k := 542) (c := 571) (pc' := 6) rfl rfl rfl rfl rfl ?_
  refine mc_cx hmi 3 (F' := (9, [(3, .int (Int32.ofInt 0)), (0, .ref 542), (1, .int k), (2, .int s)], [.int (Int32.ofInt 0), .ref 542, .int (Int32.ofInt 0), .ref 571], h, n, 0, 0)) (by with_unfolding_all rfl) ?_
  refine mc_callP hmi (en := (9, .invokevirtual 257, 3, (3, 208, 11, 0), [1494, 100, 1492])) rfl (q := (mt_X11_first, [.ref 542, .int (Int32.ofInt 0)], [.int (Int32.ofInt 0), .ref 571])) (mc_inv H (as := [.int (Int32.ofInt 0)]) (rest := [.int (Int32.ofInt 0), .ref 571]) rfl (by with_unfolding_all rfl) rfl rfl rfl) ⟨rfl, rfl⟩ (pc' := 12) rfl (mc_first (by omega) H (Int32.ofInt 0) (j := 0) (by decide)) (fun y48 e49 => ?_)
  have hv0 : 0 ≤ y48.toInt ∧ y48.toInt ≤ 13 := by
    rw [e49]
    cases ho : fo h 0 with
    | true => rw [if_pos rfl]; omega
    | false =>
      unfold fo at ho
      rw [Bool.or_eq_false_iff] at ho
      have o1 := of_decide_eq_false ho.1
      have o2 := of_decide_eq_false ho.2
      have o3 := mc_rng H (k := 554) (i := ((0 : Nat) : Int)) rfl rfl (by omega) (by omega)
      rw [if_neg (show ¬ (false = true) by decide)]
      omega
  have hv : fo h 0 = true → y48.toInt = 0 := fun ho => by rw [e49, ho]; rfl
  have b50 := Int32.le_toInt (y48)
  have b51 := Int32.toInt_lt (y48)
  refine mc_iast hmi H (k := 571) (i := 0) (pc' := 13) rfl rfl rfl (by decide) (by omega) (by omega) (by rw [show (y48).toInt = y48.toInt from rfl]; omega) (by rw [show (y48).toInt = y48.toInt from rfl]; omega) rfl (fun h52 H53 w54 => ?_)
  refine mc_lvs (lv' := [(0, .ref 542), (1, .int k), (2, .int s), (3, .int (Int32.ofInt 0))]) (by simp) ?_
  obtain ⟨k1, k2, k3, k4, k5⟩ := FW (j := 0) (fun _ _ _ _ _ _ _ => rfl) w54
  have hNN : NN (fo h) (dgs h52) N 0 = 0 := by
    unfold NN
    rw [Hn_s]
    have e0 : dgs h52 0 = y48.toInt.toNat := by unfold dgs; rw [k3]
    rw [e0]
    cases ho : fo h 0 with
    | true => rw [if_pos rfl, hv ho]; exact Nat.zero_mul _
    | false => rw [if_neg (show ¬ (false = true) by decide), if_neg (by omega)]; exact Nat.zero_mul _
  exact ft_loop (by omega) H k s hk0 hk1 hs hN hS0 hB _ h52 (Int32.ofInt 0) 0 (by decide) (by omega) ⟨H53, k1, fun i hi => absurd hi (Nat.not_lt_zero i), by rw [k3]; omega, by omega, by rw [k5, k4]; exact hnz, by rw [k4]; omega⟩ (Nat.le_refl _)
