/-! ===== by hand: lift, in the reference (ways printed by wip/hand/h_lift.py) ===== -/
theorem lf_1 {l : Launch} {G : ax_T} {d : Nat} {Q : Option Value → ax_H → Nat → Prop} {h : ax_H} {n : Nat} (H : mc_HW h n) (r : Int32) (kk : ∀ a b : Int32, a.toInt = sm (fun s => ab_ri h 551 (s : Int)) 7 → 0 ≤ b.toInt → mc_R l G mt_X11_lift d Q (50, [(0, .ref 542), (1, .int r), (2, .int a), (3, .int b)], [], h, n, 0, 0)) : ∀ (k j : Nat) (a b i : Int32), k + j = 7 → i.toInt = (j : Int) → a.toInt = sm (fun s => ab_ri h 551 (s : Int)) j → 0 ≤ a.toInt → a.toInt ≤ 99 * (j : Int) → 0 ≤ b.toInt → b.toInt ≤ 99 * (j : Int) → mc_R l G mt_X11_lift d Q (17, [(0, .ref 542), (1, .int r), (2, .int a), (3, .int b), (4, .int i)], [], h, n, 0, 0) := by
  have hmi : mt_X11_lift ∈ mt_prog := List.mem_of_getElem? mi_X11_lift
  intro k
  induction k with
  | zero =>
    intro j a b i hj hi ha ha0 ha9 hb0 hb9
    refine mc_cx hmi 2 (F' := (21, [(0, .ref 542), (1, .int r), (2, .int a), (3, .int b), (4, .int i)], [.int (Int8.ofInt 7).toInt32, .int i], h, n, 0, 0)) (by with_unfolding_all rfl) ?_
    refine mc_ci hmi (c := .ge) (tg := 50) (pc' := 24) rfl rfl rfl hi (by decide) (fun (q1 : 7 ≤ (j : Int)) => ?_) (fun (q1 : (j : Int) < 7) => ?_)
    · refine mc_lvs (lv' := [(0, .ref 542), (1, .int r), (2, .int a), (3, .int b)]) (by simp) ?_
      have e : j = 7 := by omega
      subst e
      exact kk a b ha hb0
    · exact absurd q1 (by omega)
  | succ k ih =>
    intro j a b i hj hi ha ha0 ha9 hb0 hb9
    refine mc_cx hmi 2 (F' := (21, [(0, .ref 542), (1, .int r), (2, .int a), (3, .int b), (4, .int i)], [.int (Int8.ofInt 7).toInt32, .int i], h, n, 0, 0)) (by with_unfolding_all rfl) ?_
    refine mc_ci hmi (c := .ge) (tg := 50) (pc' := 24) rfl rfl rfl hi (by decide) (fun (q2 : 7 ≤ (j : Int)) => ?_) (fun (q2 : (j : Int) < 7) => ?_)
    · exact absurd q2 (by omega)
    · refine mc_cx hmi 2 (F' := (26, [(0, .ref 542), (1, .int r), (2, .int a), (3, .int b), (4, .int i)], [.ref 542, .int a], h, n, 0, 0)) (by with_unfolding_all rfl) ?_
      refine mc_getr hmi H (k := 542) (c := 551) (pc' := 29) rfl rfl rfl rfl rfl ?_
      refine mc_cx hmi 1 (F' := (31, [(0, .ref 542), (1, .int r), (2, .int a), (3, .int b), (4, .int i)], [.int i, .ref 551, .int a], h, n, 0, 0)) (by with_unfolding_all rfl) ?_
      refine mc_iald hmi H (k := 551) (i := (j : Int)) (pc' := 32) rfl rfl rfl hi (by omega) (by omega) rfl (fun y3 e4 r5 r6 => ?_)
      rw [e4] at r5 r6
      refine mc_cx hmi 4 (F' := (36, [(2, .int (a + y3)), (0, .ref 542), (1, .int r), (3, .int b), (4, .int i)], [.ref 542, .int b], h, n, 0, 0)) (by with_unfolding_all rfl) ?_
      have e7 : (a + y3).toInt = a.toInt + ab_ri h 551 ((j : Int)) := mc_add rfl e4 (by omega) (by omega)
      refine mc_getr hmi H (k := 542) (c := 552) (pc' := 39) rfl rfl rfl rfl rfl ?_
      refine mc_cx hmi 1 (F' := (41, [(2, .int (a + y3)), (0, .ref 542), (1, .int r), (3, .int b), (4, .int i)], [.int i, .ref 552, .int b], h, n, 0, 0)) (by with_unfolding_all rfl) ?_
      refine mc_iald hmi H (k := 552) (i := (j : Int)) (pc' := 42) rfl rfl rfl hi (by omega) (by omega) rfl (fun y8 e9 r10 r11 => ?_)
      rw [e9] at r10 r11
      refine mc_cx hmi 4 (F' := (17, [(4, .int (i + Int32.ofInt 1)), (3, .int (b + y8)), (2, .int (a + y3)), (0, .ref 542), (1, .int r)], [], h, n, 0, 0)) (by with_unfolding_all rfl) ?_
      have e12 : (b + y8).toInt = b.toInt + ab_ri h 552 ((j : Int)) := mc_add rfl e9 (by omega) (by omega)
      have e13 : (i + Int32.ofInt 1).toInt = (j : Int) + 1 := mc_add hi (by decide) (by omega) (by omega)
      refine mc_lvs (lv' := [(0, .ref 542), (1, .int r), (2, .int (a + y3)), (3, .int (b + y8)), (4, .int (i + Int32.ofInt 1))]) (by simp) ?_
      exact ih (j + 1) (a + y3) (b + y8) (i + Int32.ofInt 1) (by omega) (by rw [e13]; omega) (by rw [e7, ha]; rfl) (by rw [e7]; omega) (by rw [e7]; omega) (by rw [e12]; omega) (by rw [e12]; omega)
theorem lf_2 {l : Launch} {G : ax_T} {d : Nat} {Q : Option Value → ax_H → Nat → Prop} {h : ax_H} {n : Nat} (r s : Int32) (hr0 : 0 ≤ r.toInt) (hr1 : r.toInt ≤ 11) {t : Nat} (hs : s.toInt = (t : Int)) (ht : t < 7) {tot : Int} (htot : tot ≤ 24) (kk : ∀ (h' : ax_H) (z : Int32), mc_HW h' n → (∀ (k' : Nat) (i' : Int), k' ≠ 550 → ab_rd h' k' i' = ab_rd h k' i') → z.toInt + sm (fun s => ab_ri h 551 (s : Int)) t = tot → 0 ≤ z.toInt → mc_R l G mt_X11_lift d Q (117, [(0, .ref 542), (1, .int r), (4, .int z), (5, .int s)], [], h', n, 0, 0)) : ∀ (c : Nat) (h' : ax_H) (z k : Int32), mc_HW h' n → (∀ (k' : Nat) (i' : Int), k' ≠ 550 → ab_rd h' k' i' = ab_rd h k' i') → 0 ≤ k.toInt → k.toInt + (c : Int) = ab_ri h 551 (t : Int) → 0 ≤ z.toInt → z.toInt + (c : Int) + sm (fun s => ab_ri h 551 (s : Int)) t = tot → mc_R l G mt_X11_lift d Q (82, [(0, .ref 542), (1, .int r), (4, .int z), (5, .int s), (6, .int k)], [], h', n, 0, 0) := by
  have hmi : mt_X11_lift ∈ mt_prog := List.mem_of_getElem? mi_X11_lift
  intro c
  induction c with
  | zero =>
    intro h' z k H' hfr hk0 hk hz0 hz
    have hg : ∀ s : Nat, ab_ri h' 551 (s : Int) = ab_ri h 551 (s : Int) := fun s => ab_ri_of (hfr 551 _ (by decide))
    have hsm : 0 ≤ sm (fun s => ab_ri h 551 (s : Int)) t := sm_nn t (fun i hi => by show 0 ≤ ab_ri h 551 (i : Int); rw [← hg]; exact (mc_rng H' (k := 551) rfl rfl (by omega) (by omega)).1)
    refine mc_cx hmi 2 (F' := (85, [(0, .ref 542), (1, .int r), (4, .int z), (5, .int s), (6, .int k)], [.ref 542, .int k], h', n, 0, 0)) (by with_unfolding_all rfl) ?_
    refine mc_getr hmi H' (k := 542) (c := 551) (pc' := 88) rfl rfl rfl rfl rfl ?_
    refine mc_cx hmi 1 (F' := (90, [(0, .ref 542), (1, .int r), (4, .int z), (5, .int s), (6, .int k)], [.int s, .ref 551, .int k], h', n, 0, 0)) (by with_unfolding_all rfl) ?_
    refine mc_iald hmi H' (k := 551) (i := (t : Int)) (pc' := 91) rfl rfl rfl hs (by omega) (by omega) rfl (fun y14 e15 r16 r17 => ?_)
    rw [e15] at r16 r17
    rw [hg] at e15 r16 r17
    refine mc_ci hmi (c := .ge) (tg := 117) (pc' := 94) rfl rfl rfl rfl e15 (fun (q18 : ab_ri h 551 (t : Int) ≤ k.toInt) => ?_) (fun (q18 : k.toInt < ab_ri h 551 (t : Int)) => ?_)
    · refine mc_lvs (lv' := [(0, .ref 542), (1, .int r), (4, .int z), (5, .int s)]) (by simp) ?_
      exact kk h' z H' hfr (by omega) hz0
    · exact absurd q18 (by omega)
  | succ c ih =>
    intro h' z k H' hfr hk0 hk hz0 hz
    have hg : ∀ s : Nat, ab_ri h' 551 (s : Int) = ab_ri h 551 (s : Int) := fun s => ab_ri_of (hfr 551 _ (by decide))
    have hsm : 0 ≤ sm (fun s => ab_ri h 551 (s : Int)) t := sm_nn t (fun i hi => by show 0 ≤ ab_ri h 551 (i : Int); rw [← hg]; exact (mc_rng H' (k := 551) rfl rfl (by omega) (by omega)).1)
    refine mc_cx hmi 2 (F' := (85, [(0, .ref 542), (1, .int r), (4, .int z), (5, .int s), (6, .int k)], [.ref 542, .int k], h', n, 0, 0)) (by with_unfolding_all rfl) ?_
    refine mc_getr hmi H' (k := 542) (c := 551) (pc' := 88) rfl rfl rfl rfl rfl ?_
    refine mc_cx hmi 1 (F' := (90, [(0, .ref 542), (1, .int r), (4, .int z), (5, .int s), (6, .int k)], [.int s, .ref 551, .int k], h', n, 0, 0)) (by with_unfolding_all rfl) ?_
    refine mc_iald hmi H' (k := 551) (i := (t : Int)) (pc' := 91) rfl rfl rfl hs (by omega) (by omega) rfl (fun y19 e20 r21 r22 => ?_)
    rw [e20] at r21 r22
    rw [hg] at e20 r21 r22
    refine mc_ci hmi (c := .ge) (tg := 117) (pc' := 94) rfl rfl rfl rfl e20 (fun (q23 : ab_ri h 551 (t : Int) ≤ k.toInt) => ?_) (fun (q23 : k.toInt < ab_ri h 551 (t : Int)) => ?_)
    · exact absurd q23 (by omega)
    · refine mc_cx hmi 1 (F' := (95, [(0, .ref 542), (1, .int r), (4, .int z), (5, .int s), (6, .int k)], [.ref 542], h', n, 0, 0)) (by with_unfolding_all rfl) ?_
      refine mc_getr hmi H' (k := 542) (c := 550) (pc' := 98) rfl rfl rfl rfl rfl ?_
      refine mc_cx hmi 6 (F' := (107, [(0, .ref 542), (1, .int r), (4, .int z), (5, .int s), (6, .int k)], [.int s, .int (((Int8.ofInt 24).toInt32 * r) + z), .ref 550], h', n, 0, 0)) (by with_unfolding_all rfl) ?_
      have e24 : ((Int8.ofInt 24).toInt32 * r).toInt = 24 * r.toInt := mc_mul (by decide) rfl (by omega) (by omega)
      have e25 : (((Int8.ofInt 24).toInt32 * r) + z).toInt = (24 * r.toInt) + z.toInt := mc_add e24 rfl (by omega) (by omega)
      refine mc_iast hmi H' (k := 550) (i := ((24 * r.toInt) + z.toInt)) (pc' := 108) rfl rfl rfl e25 (by omega) (by omega) (by rw [hs]; omega) (by rw [hs]; omega) rfl (fun h26 H27 w28 => ?_)
      refine mc_cx hmi 3 (F' := (82, [(6, .int (k + Int32.ofInt 1)), (4, .int (z + Int32.ofInt 1)), (0, .ref 542), (1, .int r), (5, .int s)], [], h26, n, 0, 0)) (by with_unfolding_all rfl) ?_
      have e29 : (z + Int32.ofInt 1).toInt = z.toInt + 1 := mc_add rfl (by decide) (by omega) (by omega)
      have e30 : (k + Int32.ofInt 1).toInt = k.toInt + 1 := mc_add rfl (by decide) (by omega) (by omega)
      refine mc_lvs (lv' := [(0, .ref 542), (1, .int r), (4, .int (z + Int32.ofInt 1)), (5, .int s), (6, .int (k + Int32.ofInt 1))]) (by simp) ?_
      exact ih h26 (z + Int32.ofInt 1) (k + Int32.ofInt 1) H27 (fun k' i' hk' => by rw [w28, if_neg (fun q => hk' q.1)]; exact hfr k' i' hk') (by rw [e30]; omega) (by rw [e30]; omega) (by rw [e29]; omega) (by rw [e29]; omega)
theorem lf_3 {l : Launch} {G : ax_T} {d : Nat} {Q : Option Value → ax_H → Nat → Prop} {h : ax_H} {n : Nat} (r : Int32) (hr0 : 0 ≤ r.toInt) (hr1 : r.toInt ≤ 11) {tot : Int} (htot : tot ≤ 24) (kk : ∀ (h' : ax_H) (z : Int32), mc_HW h' n → (∀ (k' : Nat) (i' : Int), k' ≠ 550 → ab_rd h' k' i' = ab_rd h k' i') → z.toInt = tot → 0 ≤ z.toInt → mc_R l G mt_X11_lift d Q (123, [(0, .ref 542), (1, .int r), (4, .int z)], [], h', n, 0, 0)) : ∀ (t : Nat) (h' : ax_H) (z s : Int32), mc_HW h' n → (∀ (k' : Nat) (i' : Int), k' ≠ 550 → ab_rd h' k' i' = ab_rd h k' i') → s.toInt + 1 = (t : Int) → t ≤ 7 → 0 ≤ z.toInt → z.toInt + sm (fun s => ab_ri h 551 (s : Int)) t = tot → mc_R l G mt_X11_lift d Q (74, [(0, .ref 542), (1, .int r), (4, .int z), (5, .int s)], [], h', n, 0, 0) := by
  have hmi : mt_X11_lift ∈ mt_prog := List.mem_of_getElem? mi_X11_lift
  intro t
  induction t with
  | zero =>
    intro h' z s H' hfr hs ht hz0 hz
    refine mc_cx hmi 1 (F' := (76, [(0, .ref 542), (1, .int r), (4, .int z), (5, .int s)], [.int s], h', n, 0, 0)) (by with_unfolding_all rfl) ?_
    refine mc_cz hmi (c := .lt) (tg := 123) (pc' := 79) rfl rfl rfl rfl (fun (q31 : s.toInt < 0) => ?_) (fun (q31 : 0 ≤ s.toInt) => ?_)
    · refine mc_lvs (lv' := [(0, .ref 542), (1, .int r), (4, .int z)]) (by simp) ?_
      have hz' : z.toInt + 0 = tot := hz
      exact kk h' z H' hfr (by omega) hz0
    · exact absurd q31 (by omega)
  | succ t ih =>
    intro h' z s H' hfr hs ht hz0 hz
    refine mc_cx hmi 1 (F' := (76, [(0, .ref 542), (1, .int r), (4, .int z), (5, .int s)], [.int s], h', n, 0, 0)) (by with_unfolding_all rfl) ?_
    refine mc_cz hmi (c := .lt) (tg := 123) (pc' := 79) rfl rfl rfl rfl (fun (q32 : s.toInt < 0) => ?_) (fun (q32 : 0 ≤ s.toInt) => ?_)
    · exact absurd q32 (by omega)
    · refine mc_cx hmi 2 (F' := (82, [(6, .int (Int32.ofInt 0)), (0, .ref 542), (1, .int r), (4, .int z), (5, .int s)], [], h', n, 0, 0)) (by with_unfolding_all rfl) ?_
      refine mc_lvs (lv' := [(0, .ref 542), (1, .int r), (4, .int z), (5, .int s), (6, .int (Int32.ofInt 0))]) (by simp) ?_
      have hg : ∀ s : Nat, ab_ri h' 551 (s : Int) = ab_ri h 551 (s : Int) := fun s => ab_ri_of (hfr 551 _ (by decide))
      have hgt : 0 ≤ ab_ri h 551 (t : Int) := by rw [← hg]; exact (mc_rng H' (k := 551) rfl rfl (by omega) (by omega)).1
      have hz' : z.toInt + (sm (fun s => ab_ri h 551 (s : Int)) t + ab_ri h 551 (t : Int)) = tot := hz
      refine lf_2 r s hr0 hr1 (t := t) (by omega) (by omega) htot (fun h2 z2 H2 f2 e2 n2 => ?_) (ab_ri h 551 (t : Int)).toNat h' z (Int32.ofInt 0) H' hfr (by decide) (by show 0 + _ = _; omega) hz0 (by omega)
      refine mc_cx hmi 2 (F' := (74, [(5, .int (s + Int32.ofInt (-1))), (0, .ref 542), (1, .int r), (4, .int z2)], [], h2, n, 0, 0)) (by with_unfolding_all rfl) ?_
      have e33 : (s + Int32.ofInt (-1)).toInt = s.toInt + (-1) := mc_add rfl (by decide) (by omega) (by omega)
      refine mc_lvs (lv' := [(0, .ref 542), (1, .int r), (4, .int z2), (5, .int (s + Int32.ofInt (-1)))]) (by simp) ?_
      exact ih h2 z2 (s + Int32.ofInt (-1)) H2 f2 (by rw [e33]; omega) (by omega) n2 e2
