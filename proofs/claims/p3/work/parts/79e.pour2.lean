/-! ===== by hand: pour and lift of the reference (ways printed by wip/hand/h_pour2.py) ===== -/
set_option maxRecDepth 100000 in
theorem pu_a {l : Launch} {G : ax_T} {d : Nat} {Q : Option Value → ax_H → Nat → Prop} {h : ax_H} {n : Nat} (H : mc_HW h n) (r z : Int32) (hr0 : 0 ≤ r.toInt) (hr1 : r.toInt ≤ 11) (kx : ∀ y : Int32, Q (some (.int y)) h n) (kk : mc_R l G mt_X11_pour d Q (47, [(0, .ref 542), (1, .int r), (2, .int z)], [], h, n, 0, 0)) : ∀ (c j : Nat) (i : Int32), j + c = (ab_ri h 549 r.toInt).toNat → i.toInt = (j : Int) → mc_R l G mt_X11_pour d Q (12, [(0, .ref 542), (1, .int r), (2, .int z), (3, .int i)], [], h, n, 0, 0) := by
  have hmi : mt_X11_pour ∈ mt_prog := List.mem_of_getElem? mi_X11_pour
  have hsz := mc_rng H (k := 549) (i := r.toInt) rfl rfl hr0 (by omega)
  intro c
  induction c with
  | zero =>
    intro j i hj hi
    refine mc_cx hmi 2 (F' := (14, [(0, .ref 542), (1, .int r), (2, .int z), (3, .int i)], [.ref 542, .int i], h, n, 0, 0)) (by with_unfolding_all rfl) ?_
    refine mc_getr hmi H (k := 542) (c := 549) (pc' := 17) rfl rfl rfl rfl rfl ?_
    refine mc_cx hmi 1 (F' := (18, [(0, .ref 542), (1, .int r), (2, .int z), (3, .int i)], [.int r, .ref 549, .int i], h, n, 0, 0)) (by with_unfolding_all rfl) ?_
    refine mc_iald hmi H (k := 549) (i := r.toInt) (pc' := 19) rfl rfl rfl rfl (by omega) (by omega) rfl (fun y1 e2 r3 r4 => ?_)
    rw [e2] at r3 r4
    refine mc_ci hmi (c := .ge) (tg := 47) (pc' := 22) rfl rfl rfl hi e2 (fun (q5 : ab_ri h 549 (r.toInt) ≤ (j : Int)) => ?_) (fun (q5 : (j : Int) < ab_ri h 549 (r.toInt)) => ?_)
    · refine mc_lvs (lv' := [(0, .ref 542), (1, .int r), (2, .int z)]) (by simp) ?_
      exact kk
    · exact absurd q5 (by omega)
  | succ c ih =>
    intro j i hj hi
    refine mc_cx hmi 2 (F' := (14, [(0, .ref 542), (1, .int r), (2, .int z), (3, .int i)], [.ref 542, .int i], h, n, 0, 0)) (by with_unfolding_all rfl) ?_
    refine mc_getr hmi H (k := 542) (c := 549) (pc' := 17) rfl rfl rfl rfl rfl ?_
    refine mc_cx hmi 1 (F' := (18, [(0, .ref 542), (1, .int r), (2, .int z), (3, .int i)], [.int r, .ref 549, .int i], h, n, 0, 0)) (by with_unfolding_all rfl) ?_
    refine mc_iald hmi H (k := 549) (i := r.toInt) (pc' := 19) rfl rfl rfl rfl (by omega) (by omega) rfl (fun y6 e7 r8 r9 => ?_)
    rw [e7] at r8 r9
    refine mc_ci hmi (c := .ge) (tg := 47) (pc' := 22) rfl rfl rfl hi e7 (fun (q10 : ab_ri h 549 (r.toInt) ≤ (j : Int)) => ?_) (fun (q10 : (j : Int) < ab_ri h 549 (r.toInt)) => ?_)
    · exact absurd q10 (by omega)
    · refine mc_cx hmi 1 (F' := (23, [(0, .ref 542), (1, .int r), (2, .int z), (3, .int i)], [.ref 542], h, n, 0, 0)) (by with_unfolding_all rfl) ?_
      refine mc_getr hmi H (k := 542) (c := 550) (pc' := 26) rfl rfl rfl rfl rfl ?_
      refine mc_cx hmi 5 (F' := (32, [(0, .ref 542), (1, .int r), (2, .int z), (3, .int i)], [.int (((Int8.ofInt 24).toInt32 * r) + i), .ref 550], h, n, 0, 0)) (by with_unfolding_all rfl) ?_
      have e11 : ((Int8.ofInt 24).toInt32 * r).toInt = 24 * r.toInt := mc_mul (by decide) rfl (by omega) (by omega)
      have e12 : (((Int8.ofInt 24).toInt32 * r) + i).toInt = (24 * r.toInt) + (j : Int) := mc_add e11 hi (by omega) (by omega)
      refine mc_iald hmi H (k := 550) (i := ((24 * r.toInt) + (j : Int))) (pc' := 33) rfl rfl rfl e12 (by omega) (by omega) rfl (fun y13 e14 r15 r16 => ?_)
      rw [e14] at r15 r16
      refine mc_cx hmi 1 (F' := (35, [(0, .ref 542), (1, .int r), (2, .int z), (3, .int i)], [.int (Int8.ofInt 6).toInt32, .int y13], h, n, 0, 0)) (by with_unfolding_all rfl) ?_
      refine mc_ci hmi (c := .le) (tg := 41) (pc' := 38) rfl rfl rfl e14 (by decide) (fun (q17 : ab_ri h 550 (((24 * r.toInt) + (j : Int))) ≤ 6) => ?_) (fun (q17 : 6 < ab_ri h 550 (((24 * r.toInt) + (j : Int)))) => ?_)
      · refine mc_cx hmi 2 (F' := (12, [(3, .int (i + Int32.ofInt 1)), (0, .ref 542), (1, .int r), (2, .int z)], [], h, n, 0, 0)) (by with_unfolding_all rfl) ?_
        have e18 : (i + Int32.ofInt 1).toInt = (j : Int) + 1 := mc_add hi (by decide) (by omega) (by omega)
        refine mc_lvs (lv' := [(0, .ref 542), (1, .int r), (2, .int z), (3, .int (i + Int32.ofInt 1))]) (by simp) ?_
        exact ih (j + 1) (i + Int32.ofInt 1) (by omega) (by rw [e18]; omega)
      · refine mc_cx hmi 1 (F' := (40, [(0, .ref 542), (1, .int r), (2, .int z), (3, .int i)], [.int (Int8.ofInt (-102)).toInt32], h, n, 0, 0)) (by with_unfolding_all rfl) ?_
        exact mc_ret hmi rfl rfl rfl (kx _)
set_option maxRecDepth 100000 in
theorem pu_b {l : Launch} {G : ax_T} {d : Nat} {Q : Option Value → ax_H → Nat → Prop} {h : ax_H} {n : Nat} (hd : 2 ≤ d) (H : mc_HW h n) (r z : Int32) (hr0 : 0 ≤ r.toInt) (hr1 : r.toInt ≤ 11) (hz : z.toInt = 0 ∨ z.toInt = 1) (kk : ∀ f : Int32, (f.toInt ≠ 0 → (∀ t : Nat, t < 7 → ab_ri h 551 (t : Int) + PT h r.toInt (t : Int) (1 - z.toInt) ≤ 99 ∧ ab_ri h 552 (t : Int) + PT h r.toInt (t : Int) z.toInt ≤ 99)) → mc_R l G mt_X11_pour d Q (125, [(0, .ref 542), (1, .int r), (2, .int z), (3, .int f)], [], h, n, 0, 0)) : ∀ (c j : Nat) (f s : Int32), j + c = 7 → s.toInt = (j : Int) → (f.toInt ≠ 0 → (∀ t : Nat, t < j → ab_ri h 551 (t : Int) + PT h r.toInt (t : Int) (1 - z.toInt) ≤ 99 ∧ ab_ri h 552 (t : Int) + PT h r.toInt (t : Int) z.toInt ≤ 99)) → mc_R l G mt_X11_pour d Q (52, [(0, .ref 542), (1, .int r), (2, .int z), (3, .int f), (4, .int s)], [], h, n, 0, 0) := by
  have hmi : mt_X11_pour ∈ mt_prog := List.mem_of_getElem? mi_X11_pour
  intro c
  induction c with
  | zero =>
    intro j f s hj hs hf
    refine mc_cx hmi 2 (F' := (56, [(0, .ref 542), (1, .int r), (2, .int z), (3, .int f), (4, .int s)], [.int (Int8.ofInt 7).toInt32, .int s], h, n, 0, 0)) (by with_unfolding_all rfl) ?_
    refine mc_ci hmi (c := .ge) (tg := 125) (pc' := 59) rfl rfl rfl hs (by decide) (fun (q19 : 7 ≤ (j : Int)) => ?_) (fun (q19 : (j : Int) < 7) => ?_)
    · refine mc_lvs (lv' := [(0, .ref 542), (1, .int r), (2, .int z), (3, .int f)]) (by simp) ?_
      have e : j = 7 := by omega
      subst e
      exact kk f hf
    · exact absurd q19 (by omega)
  | succ c ih =>
    intro j f s hj hs hf
    refine mc_cx hmi 2 (F' := (56, [(0, .ref 542), (1, .int r), (2, .int z), (3, .int f), (4, .int s)], [.int (Int8.ofInt 7).toInt32, .int s], h, n, 0, 0)) (by with_unfolding_all rfl) ?_
    refine mc_ci hmi (c := .ge) (tg := 125) (pc' := 59) rfl rfl rfl hs (by decide) (fun (q20 : 7 ≤ (j : Int)) => ?_) (fun (q20 : (j : Int) < 7) => ?_)
    · exact absurd q20 (by omega)
    · have fin : ∀ g : Int32, (g.toInt ≠ 0 → (∀ t : Nat, t < j + 1 → ab_ri h 551 (t : Int) + PT h r.toInt (t : Int) (1 - z.toInt) ≤ 99 ∧ ab_ri h 552 (t : Int) + PT h r.toInt (t : Int) z.toInt ≤ 99)) → mc_R l G mt_X11_pour d Q (118, [(0, .ref 542), (1, .int r), (2, .int z), (3, .int f), (4, .int s)], [.int g], h, n, 0, 0) := by
        intro g hg
        refine mc_cx hmi 3 (F' := (52, [(4, .int (s + Int32.ofInt 1)), (3, .int g), (0, .ref 542), (1, .int r), (2, .int z)], [], h, n, 0, 0)) (by with_unfolding_all rfl) ?_
        have e21 : (s + Int32.ofInt 1).toInt = (j : Int) + 1 := mc_add hs (by decide) (by omega) (by omega)
        refine mc_lvs (lv' := [(0, .ref 542), (1, .int r), (2, .int z), (3, .int g), (4, .int (s + Int32.ofInt 1))]) (by simp) ?_
        exact ih (j + 1) g (s + Int32.ofInt 1) (by omega) (by rw [e21]; omega) hg
      have bad : mc_R l G mt_X11_pour d Q (117, [(0, .ref 542), (1, .int r), (2, .int z), (3, .int f), (4, .int s)], [], h, n, 0, 0) := by
        refine mc_cx hmi 1 (F' := (118, [(0, .ref 542), (1, .int r), (2, .int z), (3, .int f), (4, .int s)], [.int (Int32.ofInt 0)], h, n, 0, 0)) (by with_unfolding_all rfl) ?_
        exact fin _ (fun q => absurd (by decide) q)
      refine mc_cx hmi 1 (F' := (60, [(0, .ref 542), (1, .int r), (2, .int z), (3, .int f), (4, .int s)], [.int f], h, n, 0, 0)) (by with_unfolding_all rfl) ?_
      refine mc_cz hmi (c := .eq) (tg := 117) (pc' := 63) rfl rfl rfl rfl (fun (q22 : f.toInt = 0) => ?_) (fun (q22 : f.toInt ≠ 0) => ?_)
      · exact bad
      · have hf' := hf q22
        refine mc_cx hmi 1 (F' := (64, [(0, .ref 542), (1, .int r), (2, .int z), (3, .int f), (4, .int s)], [.ref 542], h, n, 0, 0)) (by with_unfolding_all rfl) ?_
        refine mc_getr hmi H (k := 542) (c := 551) (pc' := 67) rfl rfl rfl rfl rfl ?_
        refine mc_cx hmi 1 (F' := (69, [(0, .ref 542), (1, .int r), (2, .int z), (3, .int f), (4, .int s)], [.int s, .ref 551], h, n, 0, 0)) (by with_unfolding_all rfl) ?_
        refine mc_iald hmi H (k := 551) (i := (j : Int)) (pc' := 70) rfl rfl rfl hs (by omega) (by omega) rfl (fun y23 e24 r25 r26 => ?_)
        rw [e24] at r25 r26
        refine mc_cx hmi 4 (F' := (75, [(0, .ref 542), (1, .int r), (2, .int z), (3, .int f), (4, .int s)], [.int z, .int s, .int r, .ref 542, .int y23], h, n, 0, 0)) (by with_unfolding_all rfl) ?_
        have key : ∀ u : Int32, u.toInt = 1 - z.toInt → mc_R l G mt_X11_pour d Q (83, [(0, .ref 542), (1, .int r), (2, .int z), (3, .int f), (4, .int s)], [.int u, .int s, .int r, .ref 542, .int y23], h, n, 0, 0) := by
          intro u hu
          refine mc_callP hmi (en := (83, .invokevirtual 218, 3, (3, 190, 11, 0), [1417, 93, 1415])) rfl (q := (mt_X11_poured, [.ref 542, .int r, .int s, .int u], [.int y23])) (mc_inv H (as := [.int r, .int s, .int u]) (rest := [.int y23]) rfl (by with_unfolding_all rfl) rfl rfl rfl) ⟨rfl, rfl⟩ (pc' := 86) rfl (mc_poured hd H r s u hr0 hr1 (by rw [hu]; omega)) (fun y27 e28 => ?_)
          rw [hu, hs] at e28
          have hp1 := pw_bd (ab_ri h 550) (24 * r.toInt) (ab_ri h 549 r.toInt).toNat (j : Int) (decide (1 - z.toInt = 1)) (ab_ri h 549 r.toInt).toNat
          have hp2 := pw_bd (ab_ri h 550) (24 * r.toInt) (ab_ri h 549 r.toInt).toNat (j : Int) (decide (z.toInt = 1)) (ab_ri h 549 r.toInt).toNat
          have hsz := mc_rng H (k := 549) (i := r.toInt) rfl rfl hr0 (by omega)
          have hp1' : 0 ≤ PT h r.toInt (j : Int) (1 - z.toInt) ∧ PT h r.toInt (j : Int) (1 - z.toInt) ≤ 24 := ⟨hp1.1, by have := hp1.2; unfold PT; omega⟩
          have hp2' : 0 ≤ PT h r.toInt (j : Int) z.toInt ∧ PT h r.toInt (j : Int) z.toInt ≤ 24 := ⟨hp2.1, by have := hp2.2; unfold PT; omega⟩
          refine mc_cx hmi 2 (F' := (89, [(0, .ref 542), (1, .int r), (2, .int z), (3, .int f), (4, .int s)], [.int (Int8.ofInt 99).toInt32, .int (y23 + y27)], h, n, 0, 0)) (by with_unfolding_all rfl) ?_
          have e29 : (y23 + y27).toInt = ab_ri h 551 ((j : Int)) + PT h r.toInt (j : Int) (1 - z.toInt) := mc_add e24 e28 (by omega) (by omega)
          refine mc_ci hmi (c := .gt) (tg := 117) (pc' := 92) rfl rfl rfl e29 (by decide) (fun (q30 : 99 < (ab_ri h 551 ((j : Int)) + PT h r.toInt (j : Int) (1 - z.toInt))) => ?_) (fun (q30 : (ab_ri h 551 ((j : Int)) + PT h r.toInt (j : Int) (1 - z.toInt)) ≤ 99) => ?_)
          · exact bad
          · refine mc_cx hmi 1 (F' := (93, [(0, .ref 542), (1, .int r), (2, .int z), (3, .int f), (4, .int s)], [.ref 542], h, n, 0, 0)) (by with_unfolding_all rfl) ?_
            refine mc_getr hmi H (k := 542) (c := 552) (pc' := 96) rfl rfl rfl rfl rfl ?_
            refine mc_cx hmi 1 (F' := (98, [(0, .ref 542), (1, .int r), (2, .int z), (3, .int f), (4, .int s)], [.int s, .ref 552], h, n, 0, 0)) (by with_unfolding_all rfl) ?_
            refine mc_iald hmi H (k := 552) (i := (j : Int)) (pc' := 99) rfl rfl rfl hs (by omega) (by omega) rfl (fun y31 e32 r33 r34 => ?_)
            rw [e32] at r33 r34
            refine mc_cx hmi 4 (F' := (104, [(0, .ref 542), (1, .int r), (2, .int z), (3, .int f), (4, .int s)], [.int z, .int s, .int r, .ref 542, .int y31], h, n, 0, 0)) (by with_unfolding_all rfl) ?_
            refine mc_callP hmi (en := (104, .invokevirtual 218, 3, (3, 190, 11, 0), [1417, 93, 1415])) rfl (q := (mt_X11_poured, [.ref 542, .int r, .int s, .int z], [.int y31])) (mc_inv H (as := [.int r, .int s, .int z]) (rest := [.int y31]) rfl (by with_unfolding_all rfl) rfl rfl rfl) ⟨rfl, rfl⟩ (pc' := 107) rfl (mc_poured hd H r s z hr0 hr1 hz) (fun y35 e36 => ?_)
            rw [hs] at e36
            refine mc_cx hmi 2 (F' := (110, [(0, .ref 542), (1, .int r), (2, .int z), (3, .int f), (4, .int s)], [.int (Int8.ofInt 99).toInt32, .int (y31 + y35)], h, n, 0, 0)) (by with_unfolding_all rfl) ?_
            have e37 : (y31 + y35).toInt = ab_ri h 552 ((j : Int)) + PT h r.toInt (j : Int) z.toInt := mc_add e32 e36 (by omega) (by omega)
            refine mc_ci hmi (c := .gt) (tg := 117) (pc' := 113) rfl rfl rfl e37 (by decide) (fun (q38 : 99 < (ab_ri h 552 ((j : Int)) + PT h r.toInt (j : Int) z.toInt)) => ?_) (fun (q38 : (ab_ri h 552 ((j : Int)) + PT h r.toInt (j : Int) z.toInt) ≤ 99) => ?_)
            · exact bad
            · refine mc_cx hmi 2 (F' := (118, [(0, .ref 542), (1, .int r), (2, .int z), (3, .int f), (4, .int s)], [.int (Int32.ofInt 1)], h, n, 0, 0)) (by with_unfolding_all rfl) ?_
              refine fin _ (fun _ t ht => ?_)
              by_cases et : t = j
              · subst et; exact ⟨q30, q38⟩
              · exact hf' t (by omega)
        refine mc_cz hmi (c := .ne) (tg := 82) (pc' := 78) rfl rfl rfl rfl (fun (q39 : z.toInt ≠ 0) => ?_) (fun (q39 : z.toInt = 0) => ?_)
        · refine mc_cx hmi 1 (F' := (83, [(0, .ref 542), (1, .int r), (2, .int z), (3, .int f), (4, .int s)], [.int (Int32.ofInt 0), .int s, .int r, .ref 542, .int y23], h, n, 0, 0)) (by with_unfolding_all rfl) ?_
          exact key _ (by have : (Int32.ofInt 0).toInt = 0 := (by decide); omega)
        · refine mc_cx hmi 2 (F' := (83, [(0, .ref 542), (1, .int r), (2, .int z), (3, .int f), (4, .int s)], [.int (Int32.ofInt 1), .int s, .int r, .ref 542, .int y23], h, n, 0, 0)) (by with_unfolding_all rfl) ?_
          exact key _ (by have : (Int32.ofInt 1).toInt = 1 := (by decide); omega)
set_option maxRecDepth 100000 in
theorem pu_c {l : Launch} {G : ax_T} {d : Nat} {Q : Option Value → ax_H → Nat → Prop} {h : ax_H} {n : Nat} (hd : 2 ≤ d) (r z : Int32) (hr0 : 0 ≤ r.toInt) (hr1 : r.toInt ≤ 11) (hz : z.toInt = 0 ∨ z.toInt = 1) (hF : (∀ t : Nat, t < 7 → ab_ri h 551 (t : Int) + PT h r.toInt (t : Int) (1 - z.toInt) ≤ 99 ∧ ab_ri h 552 (t : Int) + PT h r.toInt (t : Int) z.toInt ≤ 99)) (kk : ∀ h' : ax_H, mc_HW h' n → (∀ (k' : Nat) (i' : Int), k' ≠ 551 → k' ≠ 552 → ab_rd h' k' i' = ab_rd h k' i') → mc_R l G mt_X11_pour d Q (192, [(0, .ref 542)], [], h', n, 0, 0)) : ∀ (c j : Nat) (h' : ax_H) (s : Int32), j + c = 7 → s.toInt = (j : Int) → mc_HW h' n → (∀ (k' : Nat) (i' : Int), k' ≠ 551 → k' ≠ 552 → ab_rd h' k' i' = ab_rd h k' i') → (∀ t : Nat, j ≤ t → t < 7 → ab_ri h' 551 (t : Int) = ab_ri h 551 (t : Int) ∧ ab_ri h' 552 (t : Int) = ab_ri h 552 (t : Int)) → mc_R l G mt_X11_pour d Q (135, [(0, .ref 542), (1, .int r), (2, .int z), (4, .int s)], [], h', n, 0, 0) := by
  have hmi : mt_X11_pour ∈ mt_prog := List.mem_of_getElem? mi_X11_pour
  intro c
  induction c with
  | zero =>
    intro j h' s hj hs H' hfr hsame
    refine mc_cx hmi 2 (F' := (139, [(0, .ref 542), (1, .int r), (2, .int z), (4, .int s)], [.int (Int8.ofInt 7).toInt32, .int s], h', n, 0, 0)) (by with_unfolding_all rfl) ?_
    refine mc_ci hmi (c := .ge) (tg := 192) (pc' := 142) rfl rfl rfl hs (by decide) (fun (q40 : 7 ≤ (j : Int)) => ?_) (fun (q40 : (j : Int) < 7) => ?_)
    · refine mc_lvs (lv' := [(0, .ref 542)]) (by simp) ?_
      exact kk h' H' hfr
    · exact absurd q40 (by omega)
  | succ c ih =>
    intro j h' s hj hs H' hfr hsame
    refine mc_cx hmi 2 (F' := (139, [(0, .ref 542), (1, .int r), (2, .int z), (4, .int s)], [.int (Int8.ofInt 7).toInt32, .int s], h', n, 0, 0)) (by with_unfolding_all rfl) ?_
    refine mc_ci hmi (c := .ge) (tg := 192) (pc' := 142) rfl rfl rfl hs (by decide) (fun (q41 : 7 ≤ (j : Int)) => ?_) (fun (q41 : (j : Int) < 7) => ?_)
    · exact absurd q41 (by omega)
    · have hp1 : 0 ≤ PT h r.toInt (j : Int) (1 - z.toInt) := (pw_bd (ab_ri h 550) (24 * r.toInt) (ab_ri h 549 r.toInt).toNat (j : Int) (decide (1 - z.toInt = 1)) (ab_ri h 549 r.toInt).toNat).1
      have hp2 : 0 ≤ PT h r.toInt (j : Int) (z.toInt) := (pw_bd (ab_ri h 550) (24 * r.toInt) (ab_ri h 549 r.toInt).toNat (j : Int) (decide (z.toInt = 1)) (ab_ri h 549 r.toInt).toNat).1
      have hfj := hF j (by omega)
      have hsj := hsame j (by omega) (by omega)
      refine mc_cx hmi 1 (F' := (143, [(0, .ref 542), (1, .int r), (2, .int z), (4, .int s)], [.ref 542], h', n, 0, 0)) (by with_unfolding_all rfl) ?_
      refine mc_getr hmi H' (k := 542) (c := 551) (pc' := 146) rfl rfl rfl rfl rfl ?_
      refine mc_cx hmi 2 (F' := (149, [(0, .ref 542), (1, .int r), (2, .int z), (4, .int s)], [.int s, .ref 551, .int s, .ref 551], h', n, 0, 0)) (by with_unfolding_all rfl) ?_
      refine mc_iald hmi H' (k := 551) (i := (j : Int)) (pc' := 150) rfl rfl rfl hs (by omega) (by omega) rfl (fun y42 e43 r44 r45 => ?_)
      rw [e43] at r44 r45
      refine mc_cx hmi 4 (F' := (155, [(0, .ref 542), (1, .int r), (2, .int z), (4, .int s)], [.int z, .int s, .int r, .ref 542, .int y42, .int s, .ref 551], h', n, 0, 0)) (by with_unfolding_all rfl) ?_
      rw [hsj.1] at e43 r44 r45
      have key : ∀ u : Int32, u.toInt = 1 - z.toInt → mc_R l G mt_X11_pour d Q (163, [(0, .ref 542), (1, .int r), (2, .int z), (4, .int s)], [.int u, .int s, .int r, .ref 542, .int y42, .int s, .ref 551], h', n, 0, 0) := by
        intro u hu
        refine mc_callP hmi (en := (163, .invokevirtual 218, 3, (3, 190, 11, 0), [1417, 93, 1415])) rfl (q := (mt_X11_poured, [.ref 542, .int r, .int s, .int u], [.int y42, .int s, .ref 551])) (mc_inv H' (as := [.int r, .int s, .int u]) (rest := [.int y42, .int s, .ref 551]) rfl (by with_unfolding_all rfl) rfl rfl rfl) ⟨rfl, rfl⟩ (pc' := 166) rfl (mc_poured hd H' r s u hr0 hr1 (by rw [hu]; omega)) (fun y46 e47 => ?_)
        rw [hu, hs, PT_of hfr] at e47
        refine mc_cx hmi 1 (F' := (167, [(0, .ref 542), (1, .int r), (2, .int z), (4, .int s)], [.int (y42 + y46), .int s, .ref 551], h', n, 0, 0)) (by with_unfolding_all rfl) ?_
        have e48 : (y42 + y46).toInt = ab_ri h 551 (j : Int) + PT h r.toInt (j : Int) (1 - z.toInt) := mc_add e43 e47 (by omega) (by omega)
        refine mc_iast hmi H' (k := 551) (i := (j : Int)) (pc' := 168) rfl rfl rfl hs (by omega) (by omega) (by rw [e48]; omega) (by rw [e48]; omega) rfl (fun h49 H50 w51 => ?_)
        refine mc_cx hmi 1 (F' := (169, [(0, .ref 542), (1, .int r), (2, .int z), (4, .int s)], [.ref 542], h49, n, 0, 0)) (by with_unfolding_all rfl) ?_
        refine mc_getr hmi H50 (k := 542) (c := 552) (pc' := 172) rfl rfl rfl rfl rfl ?_
        refine mc_cx hmi 2 (F' := (175, [(0, .ref 542), (1, .int r), (2, .int z), (4, .int s)], [.int s, .ref 552, .int s, .ref 552], h49, n, 0, 0)) (by with_unfolding_all rfl) ?_
        refine mc_iald hmi H50 (k := 552) (i := (j : Int)) (pc' := 176) rfl rfl rfl hs (by omega) (by omega) rfl (fun y52 e53 r54 r55 => ?_)
        rw [e53] at r54 r55
        refine mc_cx hmi 4 (F' := (181, [(0, .ref 542), (1, .int r), (2, .int z), (4, .int s)], [.int z, .int s, .int r, .ref 542, .int y52, .int s, .ref 552], h49, n, 0, 0)) (by with_unfolding_all rfl) ?_
        have g1 := mc_ri w51
        rw [g1, if_neg (fun q => absurd q.1 (by decide)), hsj.2] at e53 r54 r55
        have f1 : ∀ (k' : Nat) (i' : Int), k' ≠ 551 → k' ≠ 552 → ab_rd h49 k' i' = ab_rd h k' i' := fun k' i' a b => by rw [w51, if_neg (fun q => a q.1)]; exact hfr k' i' a b
        refine mc_callP hmi (en := (181, .invokevirtual 218, 3, (3, 190, 11, 0), [1417, 93, 1415])) rfl (q := (mt_X11_poured, [.ref 542, .int r, .int s, .int z], [.int y52, .int s, .ref 552])) (mc_inv H50 (as := [.int r, .int s, .int z]) (rest := [.int y52, .int s, .ref 552]) rfl (by with_unfolding_all rfl) rfl rfl rfl) ⟨rfl, rfl⟩ (pc' := 184) rfl (mc_poured hd H50 r s z hr0 hr1 hz) (fun y56 e57 => ?_)
        rw [hs, PT_of f1] at e57
        refine mc_cx hmi 1 (F' := (185, [(0, .ref 542), (1, .int r), (2, .int z), (4, .int s)], [.int (y52 + y56), .int s, .ref 552], h49, n, 0, 0)) (by with_unfolding_all rfl) ?_
        have e58 : (y52 + y56).toInt = ab_ri h 552 (j : Int) + PT h r.toInt (j : Int) z.toInt := mc_add e53 e57 (by omega) (by omega)
        refine mc_iast hmi H50 (k := 552) (i := (j : Int)) (pc' := 186) rfl rfl rfl hs (by omega) (by omega) (by rw [e58]; omega) (by rw [e58]; omega) rfl (fun h59 H60 w61 => ?_)
        refine mc_cx hmi 2 (F' := (135, [(4, .int (s + Int32.ofInt 1)), (0, .ref 542), (1, .int r), (2, .int z)], [], h59, n, 0, 0)) (by with_unfolding_all rfl) ?_
        have e62 : (s + Int32.ofInt 1).toInt = (j : Int) + 1 := mc_add hs (by decide) (by omega) (by omega)
        have g2 := mc_ri w61
        refine mc_lvs (lv' := [(0, .ref 542), (1, .int r), (2, .int z), (4, .int (s + Int32.ofInt 1))]) (by simp) ?_
        refine ih (j + 1) h59 (s + Int32.ofInt 1) (by omega) (by rw [e62]; omega) H60 (fun k' i' a b => by rw [w61, if_neg (fun q => b q.1)]; exact f1 k' i' a b) (fun t ht1 ht2 => ?_)
        rw [g2, g1, if_neg (fun q => absurd q.1 (by decide)), if_neg (fun q => by have := q.2; omega), g2, g1, if_neg (fun q => by have := q.2; omega), if_neg (fun q => absurd q.1 (by decide))]
        exact hsame t (by omega) ht2
      refine mc_cz hmi (c := .ne) (tg := 162) (pc' := 158) rfl rfl rfl rfl (fun (q63 : z.toInt ≠ 0) => ?_) (fun (q63 : z.toInt = 0) => ?_)
      · refine mc_cx hmi 1 (F' := (163, [(0, .ref 542), (1, .int r), (2, .int z), (4, .int s)], [.int (Int32.ofInt 0), .int s, .int r, .ref 542, .int y42, .int s, .ref 551], h', n, 0, 0)) (by with_unfolding_all rfl) ?_
        exact key _ (by have : (Int32.ofInt 0).toInt = 0 := (by decide); omega)
      · refine mc_cx hmi 2 (F' := (163, [(0, .ref 542), (1, .int r), (2, .int z), (4, .int s)], [.int (Int32.ofInt 1), .int s, .int r, .ref 542, .int y42, .int s, .ref 551], h', n, 0, 0)) (by with_unfolding_all rfl) ?_
        exact key _ (by have : (Int32.ofInt 1).toInt = 1 := (by decide); omega)
set_option maxRecDepth 100000 in
theorem ob_loop {l : Launch} {G : ax_T} {d : Nat} {h : ax_H} {n : Nat} (H : mc_HW h n) : ∀ (c j : Nat) (a s : Int32), j + c = 7 → s.toInt = (j : Int) → 0 ≤ a.toInt → a.toInt ≤ 198 * (j : Int) → mc_R l G mt_X11_onBoard d (mc_P h n fun _ => True) (4, [(0, .ref 542), (1, .int a), (2, .int s)], [], h, n, 0, 0) := by
  have hmi : mt_X11_onBoard ∈ mt_prog := List.mem_of_getElem? mi_X11_onBoard
  intro c
  induction c with
  | zero =>
    intro j a s hj hs ha0 ha1
    refine mc_cx hmi 2 (F' := (7, [(0, .ref 542), (1, .int a), (2, .int s)], [.int (Int8.ofInt 7).toInt32, .int s], h, n, 0, 0)) (by with_unfolding_all rfl) ?_
    refine mc_ci hmi (c := .ge) (tg := 32) (pc' := 10) rfl rfl rfl hs (by decide) (fun (q64 : 7 ≤ (j : Int)) => ?_) (fun (q64 : (j : Int) < 7) => ?_)
    · refine mc_cx hmi 1 (F' := (33, [(0, .ref 542), (1, .int a), (2, .int s)], [.int a], h, n, 0, 0)) (by with_unfolding_all rfl) ?_
      exact mc_ret hmi rfl rfl rfl ⟨rfl, rfl, _, rfl, trivial⟩
    · exact absurd q64 (by omega)
  | succ c ih =>
    intro j a s hj hs ha0 ha1
    refine mc_cx hmi 2 (F' := (7, [(0, .ref 542), (1, .int a), (2, .int s)], [.int (Int8.ofInt 7).toInt32, .int s], h, n, 0, 0)) (by with_unfolding_all rfl) ?_
    refine mc_ci hmi (c := .ge) (tg := 32) (pc' := 10) rfl rfl rfl hs (by decide) (fun (q65 : 7 ≤ (j : Int)) => ?_) (fun (q65 : (j : Int) < 7) => ?_)
    · exact absurd q65 (by omega)
    · refine mc_cx hmi 2 (F' := (12, [(0, .ref 542), (1, .int a), (2, .int s)], [.ref 542, .int a], h, n, 0, 0)) (by with_unfolding_all rfl) ?_
      refine mc_getr hmi H (k := 542) (c := 551) (pc' := 15) rfl rfl rfl rfl rfl ?_
      refine mc_cx hmi 1 (F' := (16, [(0, .ref 542), (1, .int a), (2, .int s)], [.int s, .ref 551, .int a], h, n, 0, 0)) (by with_unfolding_all rfl) ?_
      refine mc_iald hmi H (k := 551) (i := (j : Int)) (pc' := 17) rfl rfl rfl hs (by omega) (by omega) rfl (fun y66 e67 r68 r69 => ?_)
      rw [e67] at r68 r69
      refine mc_cx hmi 1 (F' := (18, [(0, .ref 542), (1, .int a), (2, .int s)], [.ref 542, .int y66, .int a], h, n, 0, 0)) (by with_unfolding_all rfl) ?_
      refine mc_getr hmi H (k := 542) (c := 552) (pc' := 21) rfl rfl rfl rfl rfl ?_
      refine mc_cx hmi 1 (F' := (22, [(0, .ref 542), (1, .int a), (2, .int s)], [.int s, .ref 552, .int y66, .int a], h, n, 0, 0)) (by with_unfolding_all rfl) ?_
      refine mc_iald hmi H (k := 552) (i := (j : Int)) (pc' := 23) rfl rfl rfl hs (by omega) (by omega) rfl (fun y70 e71 r72 r73 => ?_)
      rw [e71] at r72 r73
      refine mc_cx hmi 5 (F' := (4, [(2, .int (s + Int32.ofInt 1)), (1, .int (a + (y66 + y70))), (0, .ref 542)], [], h, n, 0, 0)) (by with_unfolding_all rfl) ?_
      have e74 : (y66 + y70).toInt = ab_ri h 551 ((j : Int)) + ab_ri h 552 ((j : Int)) := mc_add e67 e71 (by omega) (by omega)
      have e75 : (a + (y66 + y70)).toInt = a.toInt + (ab_ri h 551 ((j : Int)) + ab_ri h 552 ((j : Int))) := mc_add rfl e74 (by omega) (by omega)
      have e76 : (s + Int32.ofInt 1).toInt = (j : Int) + 1 := mc_add hs (by decide) (by omega) (by omega)
      refine mc_lvs (lv' := [(0, .ref 542), (1, .int (a + (y66 + y70))), (2, .int (s + Int32.ofInt 1))]) (by simp) ?_
      exact ih (j + 1) (a + (y66 + y70)) (s + Int32.ofInt 1) (by omega) (by rw [e76]; omega) (by rw [e75]; omega) (by rw [e75]; omega)
set_option maxRecDepth 100000 in
theorem mc_onBoard {l : Launch} {G : ax_T} {d : Nat} (hd : 1 ≤ d) {h : ax_H} {n : Nat} (H : mc_HW h n) : mc_M l G d mt_X11_onBoard [.ref 542] h n (mc_P h n fun _ => True) := by
  obtain ⟨d, rfl⟩ : ∃ e, d = e + 1 := ⟨d - 1, by omega⟩
  have hmi : mt_X11_onBoard ∈ mt_prog := List.mem_of_getElem? mi_X11_onBoard
  refine mc_to hmi rfl ?_
  show mc_R _ _ _ _ _ (0, [(0, .ref 542)], [], h, n, 0, 0)
  refine mc_cx hmi 4 (F' := (4, [(2, .int (Int32.ofInt 0)), (1, .int (Int32.ofInt 0)), (0, .ref 542)], [], h, n, 0, 0)) (by with_unfolding_all rfl) ?_
  refine mc_lvs (lv' := [(0, .ref 542), (1, .int (Int32.ofInt 0)), (2, .int (Int32.ofInt 0))]) (by simp) ?_
  exact ob_loop H 7 0 _ _ rfl rfl (by decide) (by decide)
set_option maxRecDepth 100000 in
theorem mc_pour {l : Launch} {G : ax_T} {d : Nat} (hd : 3 ≤ d) {h : ax_H} {n : Nat} (H : mc_HW h n) (r z : Int32) (hz : z = 0 ∨ z = 1) : mc_M l G d mt_X11_pour [.ref 542, .int r, .int z] h n (fun r' h' n' => n' = n ∧ mc_HW h' n ∧ (∃ y : Int32, r' = some (.int y)) ∧ (∀ (k' : Nat) (i' : Int), k' ≠ 551 → k' ≠ 552 → ab_rd h' k' i' = ab_rd h k' i')) := by
  obtain ⟨d, rfl⟩ : ∃ e, d = e + 1 := ⟨d - 1, by omega⟩
  have hmi : mt_X11_pour ∈ mt_prog := List.mem_of_getElem? mi_X11_pour
  have hz' : z.toInt = 0 ∨ z.toInt = 1 := by rcases hz with rfl | rfl <;> decide
  refine mc_to hmi rfl ?_
  show mc_R _ _ _ _ _ (0, [(0, .ref 542), (1, .int r), (2, .int z)], [], h, n, 0, 0)
  refine mc_cx hmi 1 (F' := (1, [(0, .ref 542), (1, .int r), (2, .int z)], [.int r], h, n, 0, 0)) (by with_unfolding_all rfl) ?_
  refine mc_callP hmi (en := (1, .invokestatic 142, 3, (3, 162, 0, 0), [1314, 1313])) rfl (q := (mt_X11_isRow, [.int r], [])) (by with_unfolding_all rfl) ⟨rfl, rfl⟩ (pc' := 4) rfl (mc_isRow (by omega) r _ _) (fun y77 e78 => ?_)
  refine mc_cz hmi (c := .ne) (tg := 10) (pc' := 7) rfl rfl rfl rfl (fun (q79 : y77.toInt ≠ 0) => ?_) (fun (q79 : y77.toInt = 0) => ?_)
  · have hr : 0 ≤ r.toInt ∧ r.toInt ≤ 11 := by omega
    refine mc_cx hmi 2 (F' := (12, [(3, .int (Int32.ofInt 0)), (0, .ref 542), (1, .int r), (2, .int z)], [], h, n, 0, 0)) (by with_unfolding_all rfl) ?_
    refine mc_lvs (lv' := [(0, .ref 542), (1, .int r), (2, .int z), (3, .int (Int32.ofInt 0))]) (by simp) ?_
    refine pu_a H r z hr.1 hr.2 (fun y => ⟨rfl, H, ⟨_, rfl⟩, fun _ _ _ _ => rfl⟩) ?_ _ 0 _ (Nat.zero_add _) rfl
    refine mc_cx hmi 4 (F' := (52, [(4, .int (Int32.ofInt 0)), (3, .int (Int32.ofInt 1)), (0, .ref 542), (1, .int r), (2, .int z)], [], h, n, 0, 0)) (by with_unfolding_all rfl) ?_
    refine mc_lvs (lv' := [(0, .ref 542), (1, .int r), (2, .int z), (3, .int (Int32.ofInt 1)), (4, .int (Int32.ofInt 0))]) (by simp) ?_
    refine pu_b (by omega) H r z hr.1 hr.2 hz' (fun f hf => ?_) 7 0 _ _ rfl rfl (fun _ t ht => absurd ht (Nat.not_lt_zero t))
    refine mc_cx hmi 1 (F' := (126, [(0, .ref 542), (1, .int r), (2, .int z), (3, .int f)], [.int f], h, n, 0, 0)) (by with_unfolding_all rfl) ?_
    refine mc_cz hmi (c := .ne) (tg := 132) (pc' := 129) rfl rfl rfl rfl (fun (q80 : f.toInt ≠ 0) => ?_) (fun (q80 : f.toInt = 0) => ?_)
    · refine mc_cx hmi 2 (F' := (135, [(4, .int (Int32.ofInt 0)), (0, .ref 542), (1, .int r), (2, .int z), (3, .int f)], [], h, n, 0, 0)) (by with_unfolding_all rfl) ?_
      refine mc_lvs (lv' := [(0, .ref 542), (1, .int r), (2, .int z), (4, .int (Int32.ofInt 0))]) (by simp) ?_
      refine pu_c (h := h) (by omega) r z hr.1 hr.2 hz' (hf q80) (fun h2 H2 f2 => ?_) 7 0 h _ rfl rfl H (fun _ _ _ _ => rfl) (fun t _ _ => ⟨rfl, rfl⟩)
      refine mc_cx hmi 1 (F' := (193, [(0, .ref 542)], [.ref 542], h2, n, 0, 0)) (by with_unfolding_all rfl) ?_
      refine mc_callP hmi (en := (193, .invokevirtual 222, 3, (3, 188, 11, 0), [1421, 94, 1419])) rfl (q := (mt_X11_onBoard, [.ref 542], [])) (mc_inv H2 (as := []) (rest := []) rfl (by with_unfolding_all rfl) rfl rfl rfl) ⟨rfl, rfl⟩ (pc' := 196) rfl (mc_onBoard (by omega) H2) (fun y81 e82 => ?_)
      exact mc_ret hmi rfl rfl rfl ⟨rfl, H2, ⟨_, rfl⟩, f2⟩
    · refine mc_cx hmi 1 (F' := (131, [(0, .ref 542), (1, .int r), (2, .int z), (3, .int f)], [.int (Int8.ofInt (-104)).toInt32], h, n, 0, 0)) (by with_unfolding_all rfl) ?_
      exact mc_ret hmi rfl rfl rfl ⟨rfl, H, ⟨_, rfl⟩, fun _ _ _ _ => rfl⟩
  · refine mc_cx hmi 1 (F' := (9, [(0, .ref 542), (1, .int r), (2, .int z)], [.int (Int8.ofInt (-101)).toInt32], h, n, 0, 0)) (by with_unfolding_all rfl) ?_
    exact mc_ret hmi rfl rfl rfl ⟨rfl, H, ⟨_, rfl⟩, fun _ _ _ _ => rfl⟩
set_option maxRecDepth 100000 in
theorem mc_lift {l : Launch} {G : ax_T} {d : Nat} (hd : 3 ≤ d) {h : ax_H} {n : Nat} (H : mc_HW h n) (r : Int32) : mc_M l G d mt_X11_lift [.ref 542, .int r] h n (fun r' h' n' => n' = n ∧ mc_HW h' n ∧ (∃ y : Int32, r' = some (.int y)) ∧ (∀ (k' : Nat) (i' : Int), k' ≠ 549 → k' ≠ 550 → ab_rd h' k' i' = ab_rd h k' i')) := by
  obtain ⟨d, rfl⟩ : ∃ e, d = e + 1 := ⟨d - 1, by omega⟩
  have hmi : mt_X11_lift ∈ mt_prog := List.mem_of_getElem? mi_X11_lift
  refine mc_to hmi rfl ?_
  show mc_R _ _ _ _ _ (0, [(0, .ref 542), (1, .int r)], [], h, n, 0, 0)
  refine mc_cx hmi 1 (F' := (1, [(0, .ref 542), (1, .int r)], [.int r], h, n, 0, 0)) (by with_unfolding_all rfl) ?_
  refine mc_callP hmi (en := (1, .invokestatic 142, 3, (3, 162, 0, 0), [1314, 1313])) rfl (q := (mt_X11_isRow, [.int r], [])) (by with_unfolding_all rfl) ⟨rfl, rfl⟩ (pc' := 4) rfl (mc_isRow (by omega) r _ _) (fun y83 e84 => ?_)
  refine mc_cz hmi (c := .ne) (tg := 10) (pc' := 7) rfl rfl rfl rfl (fun (q85 : y83.toInt ≠ 0) => ?_) (fun (q85 : y83.toInt = 0) => ?_)
  · have hr : 0 ≤ r.toInt ∧ r.toInt ≤ 11 := by omega
    refine mc_cx hmi 6 (F' := (17, [(4, .int (Int32.ofInt 0)), (3, .int (Int32.ofInt 0)), (2, .int (Int32.ofInt 0)), (0, .ref 542), (1, .int r)], [], h, n, 0, 0)) (by with_unfolding_all rfl) ?_
    refine mc_lvs (lv' := [(0, .ref 542), (1, .int r), (2, .int (Int32.ofInt 0)), (3, .int (Int32.ofInt 0)), (4, .int (Int32.ofInt 0))]) (by simp) ?_
    refine lf_1 H r (fun a b ha hb => ?_) 7 0 _ _ _ rfl rfl rfl (by decide) (by decide) (by decide) (by decide)
    refine mc_cx hmi 1 (F' := (51, [(0, .ref 542), (1, .int r), (2, .int a), (3, .int b)], [.int b], h, n, 0, 0)) (by with_unfolding_all rfl) ?_
    refine mc_cz hmi (c := .gt) (tg := 64) (pc' := 54) rfl rfl rfl rfl (fun (q86 : 0 < b.toInt) => ?_) (fun (q86 : b.toInt ≤ 0) => ?_)
    · refine mc_cx hmi 1 (F' := (66, [(0, .ref 542), (1, .int r), (2, .int a), (3, .int b)], [.int (Int8.ofInt (-103)).toInt32], h, n, 0, 0)) (by with_unfolding_all rfl) ?_
      exact mc_ret hmi rfl rfl rfl ⟨rfl, H, ⟨_, rfl⟩, fun _ _ _ _ => rfl⟩
    · refine mc_cx hmi 1 (F' := (55, [(0, .ref 542), (1, .int r), (2, .int a), (3, .int b)], [.int a], h, n, 0, 0)) (by with_unfolding_all rfl) ?_
      refine mc_cz hmi (c := .eq) (tg := 64) (pc' := 58) rfl rfl rfl ha (fun (q87 : sm (fun s => ab_ri h 551 (s : Int)) 7 = 0) => ?_) (fun (q87 : sm (fun s => ab_ri h 551 (s : Int)) 7 ≠ 0) => ?_)
      · refine mc_cx hmi 1 (F' := (66, [(0, .ref 542), (1, .int r), (2, .int a), (3, .int b)], [.int (Int8.ofInt (-103)).toInt32], h, n, 0, 0)) (by with_unfolding_all rfl) ?_
        exact mc_ret hmi rfl rfl rfl ⟨rfl, H, ⟨_, rfl⟩, fun _ _ _ _ => rfl⟩
      · refine mc_cx hmi 2 (F' := (61, [(0, .ref 542), (1, .int r), (2, .int a), (3, .int b)], [.int (Int8.ofInt 24).toInt32, .int a], h, n, 0, 0)) (by with_unfolding_all rfl) ?_
        refine mc_ci hmi (c := .le) (tg := 67) (pc' := 64) rfl rfl rfl ha (by decide) (fun (q88 : sm (fun s => ab_ri h 551 (s : Int)) 7 ≤ 24) => ?_) (fun (q88 : 24 < sm (fun s => ab_ri h 551 (s : Int)) 7) => ?_)
        · refine mc_cx hmi 4 (F' := (74, [(5, .int (Int8.ofInt 6).toInt32), (4, .int (Int32.ofInt 0)), (0, .ref 542), (1, .int r), (2, .int a), (3, .int b)], [], h, n, 0, 0)) (by with_unfolding_all rfl) ?_
          refine mc_lvs (lv' := [(0, .ref 542), (1, .int r), (4, .int (Int32.ofInt 0)), (5, .int (Int8.ofInt 6).toInt32)]) (by simp) ?_
          refine lf_3 (h := h) r hr.1 hr.2 (tot := sm (fun s => ab_ri h 551 (s : Int)) 7) q88 (fun h2 z2 H2 f2 e2 n2 => ?_) 7 h _ _ H (fun _ _ _ => rfl) (by decide) (by decide) (by decide) (by show 0 + _ = _; omega)
          rw [e2] at n2
          refine mc_cx hmi 1 (F' := (124, [(0, .ref 542), (1, .int r), (4, .int z2)], [.ref 542], h2, n, 0, 0)) (by with_unfolding_all rfl) ?_
          refine mc_getr hmi H2 (k := 542) (c := 549) (pc' := 127) rfl rfl rfl rfl rfl ?_
          refine mc_cx hmi 2 (F' := (130, [(0, .ref 542), (1, .int r), (4, .int z2)], [.int z2, .int r, .ref 549], h2, n, 0, 0)) (by with_unfolding_all rfl) ?_
          refine mc_iast hmi H2 (k := 549) (i := r.toInt) (pc' := 131) rfl rfl rfl rfl (by omega) (by omega) (by rw [e2]; omega) (by rw [e2]; omega) rfl (fun h89 H90 w91 => ?_)
          refine mc_cx hmi 1 (F' := (133, [(0, .ref 542), (1, .int r), (4, .int z2)], [.int z2], h89, n, 0, 0)) (by with_unfolding_all rfl) ?_
          exact mc_ret hmi rfl rfl rfl ⟨rfl, H90, ⟨_, rfl⟩, fun k' i' a b => by rw [w91, if_neg (fun q => a q.1)]; exact f2 k' i' b⟩
        · refine mc_cx hmi 1 (F' := (66, [(0, .ref 542), (1, .int r), (2, .int a), (3, .int b)], [.int (Int8.ofInt (-103)).toInt32], h, n, 0, 0)) (by with_unfolding_all rfl) ?_
          exact mc_ret hmi rfl rfl rfl ⟨rfl, H, ⟨_, rfl⟩, fun _ _ _ _ => rfl⟩
  · refine mc_cx hmi 1 (F' := (9, [(0, .ref 542), (1, .int r)], [.int (Int8.ofInt (-101)).toInt32], h, n, 0, 0)) (by with_unfolding_all rfl) ?_
    exact mc_ret hmi rfl rfl rfl ⟨rfl, H, ⟨_, rfl⟩, fun _ _ _ _ => rfl⟩
