/-! ===== by hand: layRow, noteOne, open, down, in the reference (ways printed by wip/hand/h_seek2.py) ===== -/
set_option maxRecDepth 100000 in
theorem ly_1 {l : Launch} {G : ax_T} {d : Nat} {Q : Option Value → ax_H → Nat → Prop} {h : ax_H} {n : Nat} (a : Int32) {j : Nat} (ha : a.toInt = (j : Int)) (hj : j ≤ 13) (hnn : 0 ≤ sm (fS h) j) {tot : Int} (htot : tot ≤ 24) (kk : ∀ (h' : ax_H) (z : Int32), mc_HW h' n → (∀ (k' : Nat) (i' : Int), k' ≠ 549 → k' ≠ 550 → ab_rd h' k' i' = ab_rd h k' i') → z.toInt + sg (ab_ri h 561 (j : Int)) + sm (fS h) j = tot → 0 ≤ z.toInt → mc_R l G mt_X11_layRow d Q (41, [(0, .ref 542), (1, .int z), (2, .int a)], [], h', n, 0, 0)) : ∀ (c : Nat) (h' : ax_H) (z k : Int32), mc_HW h' n → (∀ (k' : Nat) (i' : Int), k' ≠ 549 → k' ≠ 550 → ab_rd h' k' i' = ab_rd h k' i') → 0 ≤ k.toInt → k.toInt + (c : Int) = ab_ri h 560 (j : Int) → 0 ≤ z.toInt → z.toInt + (c : Int) + sg (ab_ri h 561 (j : Int)) + sm (fS h) j = tot → mc_R l G mt_X11_layRow d Q (11, [(0, .ref 542), (1, .int z), (2, .int a), (3, .int k)], [], h', n, 0, 0) := by
  have hmi : mt_X11_layRow ∈ mt_prog := List.mem_of_getElem? mi_X11_layRow
  have hsg := sg_b (ab_ri h 561 (j : Int))
  intro c
  induction c with
  | zero =>
    intro h' z k H' hfr hk0 hk hz0 hz
    have hgP : ab_ri h' 560 (j : Int) = ab_ri h 560 (j : Int) := ab_ri_of (hfr 560 _ (by decide) (by decide))
    have hgT : ab_ri h' 561 (j : Int) = ab_ri h 561 (j : Int) := ab_ri_of (hfr 561 _ (by decide) (by decide))
    refine mc_cx hmi 2 (F' := (13, [(0, .ref 542), (1, .int z), (2, .int a), (3, .int k)], [.ref 542, .int k], h', n, 0, 0)) (by with_unfolding_all rfl) ?_
    refine mc_getr hmi H' (k := 542) (c := 560) (pc' := 16) rfl rfl rfl rfl rfl ?_
    refine mc_cx hmi 1 (F' := (17, [(0, .ref 542), (1, .int z), (2, .int a), (3, .int k)], [.int a, .ref 560, .int k], h', n, 0, 0)) (by with_unfolding_all rfl) ?_
    refine mc_iald hmi H' (k := 560) (i := (j : Int)) (pc' := 18) rfl rfl rfl ha (by omega) (by omega) rfl (fun y1 e2 r3 r4 => ?_)
    rw [e2] at r3 r4
    refine mc_ci hmi (c := .ge) (tg := 41) (pc' := 21) rfl rfl rfl rfl e2 (fun (q5 : ab_ri h' 560 ((j : Int)) ≤ k.toInt) => ?_) (fun (q5 : k.toInt < ab_ri h' 560 ((j : Int))) => ?_)
    · refine mc_lvs (lv' := [(0, .ref 542), (1, .int z), (2, .int a)]) (by simp) ?_
      exact kk h' z H' hfr (by omega) hz0
    · exact absurd q5 (by omega)
  | succ c ih =>
    intro h' z k H' hfr hk0 hk hz0 hz
    have hgP : ab_ri h' 560 (j : Int) = ab_ri h 560 (j : Int) := ab_ri_of (hfr 560 _ (by decide) (by decide))
    have hgT : ab_ri h' 561 (j : Int) = ab_ri h 561 (j : Int) := ab_ri_of (hfr 561 _ (by decide) (by decide))
    refine mc_cx hmi 2 (F' := (13, [(0, .ref 542), (1, .int z), (2, .int a), (3, .int k)], [.ref 542, .int k], h', n, 0, 0)) (by with_unfolding_all rfl) ?_
    refine mc_getr hmi H' (k := 542) (c := 560) (pc' := 16) rfl rfl rfl rfl rfl ?_
    refine mc_cx hmi 1 (F' := (17, [(0, .ref 542), (1, .int z), (2, .int a), (3, .int k)], [.int a, .ref 560, .int k], h', n, 0, 0)) (by with_unfolding_all rfl) ?_
    refine mc_iald hmi H' (k := 560) (i := (j : Int)) (pc' := 18) rfl rfl rfl ha (by omega) (by omega) rfl (fun y6 e7 r8 r9 => ?_)
    rw [e7] at r8 r9
    refine mc_ci hmi (c := .ge) (tg := 41) (pc' := 21) rfl rfl rfl rfl e7 (fun (q10 : ab_ri h' 560 ((j : Int)) ≤ k.toInt) => ?_) (fun (q10 : k.toInt < ab_ri h' 560 ((j : Int))) => ?_)
    · exact absurd q10 (by omega)
    · refine mc_cx hmi 1 (F' := (22, [(0, .ref 542), (1, .int z), (2, .int a), (3, .int k)], [.ref 542], h', n, 0, 0)) (by with_unfolding_all rfl) ?_
      refine mc_getr hmi H' (k := 542) (c := 550) (pc' := 25) rfl rfl rfl rfl rfl ?_
      refine mc_cx hmi 4 (F' := (31, [(0, .ref 542), (1, .int z), (2, .int a), (3, .int k)], [.int a, .int ((Int16.ofInt 288).toInt32 + z), .ref 550], h', n, 0, 0)) (by with_unfolding_all rfl) ?_
      have e11 : ((Int16.ofInt 288).toInt32 + z).toInt = 288 + z.toInt := mc_add (by decide) rfl (by omega) (by omega)
      refine mc_iast hmi H' (k := 550) (i := (288 + z.toInt)) (pc' := 32) rfl rfl rfl e11 (by omega) (by omega) (by rw [ha]; omega) (by rw [ha]; omega) rfl (fun h12 H13 w14 => ?_)
      refine mc_cx hmi 3 (F' := (11, [(3, .int (k + Int32.ofInt 1)), (1, .int (z + Int32.ofInt 1)), (0, .ref 542), (2, .int a)], [], h12, n, 0, 0)) (by with_unfolding_all rfl) ?_
      have e15 : (z + Int32.ofInt 1).toInt = z.toInt + 1 := mc_add rfl (by decide) (by omega) (by omega)
      have e16 : (k + Int32.ofInt 1).toInt = k.toInt + 1 := mc_add rfl (by decide) (by omega) (by omega)
      refine mc_lvs (lv' := [(0, .ref 542), (1, .int (z + Int32.ofInt 1)), (2, .int a), (3, .int (k + Int32.ofInt 1))]) (by simp) ?_
      exact ih h12 (z + Int32.ofInt 1) (k + Int32.ofInt 1) H13 (fun k' i' p1 p2 => by rw [w14, if_neg (fun q => p2 q.1)]; exact hfr k' i' p1 p2) (by rw [e16]; omega) (by rw [e16]; omega) (by rw [e15]; omega) (by rw [e15]; omega)
set_option maxRecDepth 100000 in
theorem ly_2 {l : Launch} {G : ax_T} {d : Nat} {Q : Option Value → ax_H → Nat → Prop} {h : ax_H} {n : Nat} (hd : 1 ≤ d) (a t : Int32) {j : Nat} (ha : a.toInt = (j : Int)) (hj : j ≤ 13) (ht0 : 0 ≤ t.toInt) (ht1 : t.toInt ≤ 28) (hnn : 0 ≤ sm (fS h) j) {tot : Int} (htot : tot ≤ 24) (kk : ∀ (h' : ax_H) (z : Int32), mc_HW h' n → (∀ (k' : Nat) (i' : Int), k' ≠ 549 → k' ≠ 550 → ab_rd h' k' i' = ab_rd h k' i') → z.toInt + (if t.toInt = 0 then 0 else 1) + sm (fS h) j = tot → 0 ≤ z.toInt → mc_R l G mt_X11_layRow d Q (95, [(0, .ref 542), (1, .int z), (2, .int a), (3, .int t)], [], h', n, 0, 0)) : ∀ (c : Nat) (h' : ax_H) (z k : Int32), mc_HW h' n → (∀ (k' : Nat) (i' : Int), k' ≠ 549 → k' ≠ 550 → ab_rd h' k' i' = ab_rd h k' i') → 1 ≤ k.toInt → k.toInt + (c : Int) = (if t.toInt = 0 then 1 else sg t.toInt) → 0 ≤ z.toInt → z.toInt + (c : Int) + (if t.toInt = 0 then 0 else 1) + sm (fS h) j = tot → mc_R l G mt_X11_layRow d Q (51, [(0, .ref 542), (1, .int z), (2, .int a), (3, .int t), (4, .int k)], [], h', n, 0, 0) := by
  have hmi : mt_X11_layRow ∈ mt_prog := List.mem_of_getElem? mi_X11_layRow
  have hsg : (t.toInt = 0 ∧ sg t.toInt = 0 ∧ (if t.toInt = 0 then 0 else 1) = (0 : Int)) ∨ (1 ≤ t.toInt ∧ 2 ≤ sg t.toInt ∧ sg t.toInt ≤ 3 ∧ (if t.toInt = 0 then 0 else 1) = (1 : Int)) := by
    by_cases e : t.toInt = 0
    · left; refine ⟨e, ?_, by rw [if_pos e]⟩; unfold sg; rw [if_pos e]
    · right; refine ⟨by omega, ?_, (sg_b _).2, by rw [if_neg e]⟩; unfold sg; rw [if_neg e]; split <;> omega
  have hmx : (if t.toInt = 0 then (1 : Int) else sg t.toInt) = (if t.toInt = 0 then 1 else sg t.toInt) := rfl
  intro c
  induction c with
  | zero =>
    intro h' z k H' hfr hk0 hk hz0 hz
    have hks : k.toInt + ((0 : Nat) : Int) = 1 ∧ t.toInt = 0 ∨ 1 ≤ t.toInt ∧ k.toInt + ((0 : Nat) : Int) = sg t.toInt := by
      by_cases e : t.toInt = 0
      · rw [if_pos e] at hk; exact Or.inl ⟨hk, e⟩
      · rw [if_neg e] at hk; exact Or.inr ⟨by omega, hk⟩
    refine mc_cx hmi 2 (F' := (54, [(0, .ref 542), (1, .int z), (2, .int a), (3, .int t), (4, .int k)], [.int t, .int k], h', n, 0, 0)) (by with_unfolding_all rfl) ?_
    refine mc_callP hmi (en := (54, .invokestatic 194, 3, (3, 176, 0, 0), [1385, 1384])) rfl (q := (mt_X11_signsOf, [.int t], [.int k])) (by with_unfolding_all rfl) ⟨rfl, rfl⟩ (pc' := 57) rfl (mc_signsOf hd t) (fun y17 e18 => ?_)
    refine mc_ci hmi (c := .ge) (tg := 95) (pc' := 60) rfl rfl rfl rfl e18 (fun (q19 : sg t.toInt ≤ k.toInt) => ?_) (fun (q19 : k.toInt < sg t.toInt) => ?_)
    · refine mc_lvs (lv' := [(0, .ref 542), (1, .int z), (2, .int a), (3, .int t)]) (by simp) ?_
      exact kk h' z H' hfr (by omega) hz0
    · exact absurd q19 (by omega)
  | succ c ih =>
    intro h' z k H' hfr hk0 hk hz0 hz
    have hks : k.toInt + ((c + 1 : Nat) : Int) = 1 ∧ t.toInt = 0 ∨ 1 ≤ t.toInt ∧ k.toInt + ((c + 1 : Nat) : Int) = sg t.toInt := by
      by_cases e : t.toInt = 0
      · rw [if_pos e] at hk; exact Or.inl ⟨hk, e⟩
      · rw [if_neg e] at hk; exact Or.inr ⟨by omega, hk⟩
    refine mc_cx hmi 2 (F' := (54, [(0, .ref 542), (1, .int z), (2, .int a), (3, .int t), (4, .int k)], [.int t, .int k], h', n, 0, 0)) (by with_unfolding_all rfl) ?_
    refine mc_callP hmi (en := (54, .invokestatic 194, 3, (3, 176, 0, 0), [1385, 1384])) rfl (q := (mt_X11_signsOf, [.int t], [.int k])) (by with_unfolding_all rfl) ⟨rfl, rfl⟩ (pc' := 57) rfl (mc_signsOf hd t) (fun y20 e21 => ?_)
    refine mc_ci hmi (c := .ge) (tg := 95) (pc' := 60) rfl rfl rfl rfl e21 (fun (q22 : sg t.toInt ≤ k.toInt) => ?_) (fun (q22 : k.toInt < sg t.toInt) => ?_)
    · exact absurd q22 (by omega)
    · refine mc_cx hmi 1 (F' := (61, [(0, .ref 542), (1, .int z), (2, .int a), (3, .int t), (4, .int k)], [.ref 542], h', n, 0, 0)) (by with_unfolding_all rfl) ?_
      refine mc_getr hmi H' (k := 542) (c := 550) (pc' := 64) rfl rfl rfl rfl rfl ?_
      refine mc_cx hmi 5 (F' := (72, [(0, .ref 542), (1, .int z), (2, .int a), (3, .int t), (4, .int k)], [.int (Int8.ofInt 15).toInt32, .int t, .int ((Int16.ofInt 288).toInt32 + z), .ref 550], h', n, 0, 0)) (by with_unfolding_all rfl) ?_
      have e23 : ((Int16.ofInt 288).toInt32 + z).toInt = 288 + z.toInt := mc_add (by decide) rfl (by omega) (by omega)
      have key : ∀ u : Int32, 0 ≤ u.toInt → u.toInt ≤ 13 → mc_R l G mt_X11_layRow d Q (85, [(0, .ref 542), (1, .int z), (2, .int a), (3, .int t), (4, .int k)], [.int u, .int ((Int16.ofInt 288).toInt32 + z), .ref 550], h', n, 0, 0) := by
        intro u hu0 hu1
        have b24 := Int32.le_toInt (u)
        have b25 := Int32.toInt_lt (u)
        refine mc_iast hmi H' (k := 550) (i := (288 + z.toInt)) (pc' := 86) rfl rfl rfl e23 (by omega) (by omega) (by rw [show (u).toInt = u.toInt from rfl]; omega) (by rw [show (u).toInt = u.toInt from rfl]; omega) rfl (fun h26 H27 w28 => ?_)
        refine mc_cx hmi 3 (F' := (51, [(4, .int (k + Int32.ofInt 1)), (1, .int (z + Int32.ofInt 1)), (0, .ref 542), (2, .int a), (3, .int t)], [], h26, n, 0, 0)) (by with_unfolding_all rfl) ?_
        have e29 : (z + Int32.ofInt 1).toInt = z.toInt + 1 := mc_add rfl (by decide) (by omega) (by omega)
        have e30 : (k + Int32.ofInt 1).toInt = k.toInt + 1 := mc_add rfl (by decide) (by omega) (by omega)
        refine mc_lvs (lv' := [(0, .ref 542), (1, .int (z + Int32.ofInt 1)), (2, .int a), (3, .int t), (4, .int (k + Int32.ofInt 1))]) (by simp) ?_
        exact ih h26 (z + Int32.ofInt 1) (k + Int32.ofInt 1) H27 (fun k' i' p1 p2 => by rw [w28, if_neg (fun q => p2 q.1)]; exact hfr k' i' p1 p2) (by rw [e30]; omega) (by rw [e30]; omega) (by rw [e29]; omega) (by rw [e29]; omega)
      refine mc_ci hmi (c := .ge) (tg := 81) (pc' := 75) rfl rfl rfl rfl (by decide) (fun (q31 : 15 ≤ t.toInt) => ?_) (fun (q31 : t.toInt < 15) => ?_)
      · refine mc_cx hmi 3 (F' := (85, [(0, .ref 542), (1, .int z), (2, .int a), (3, .int t), (4, .int k)], [.int (t - (Int8.ofInt 15).toInt32), .int ((Int16.ofInt 288).toInt32 + z), .ref 550], h', n, 0, 0)) (by with_unfolding_all rfl) ?_
        have e32 : (t - (Int8.ofInt 15).toInt32).toInt = t.toInt - 15 := mc_sub rfl (by decide) (by omega) (by omega)
        exact key _ (by rw [e32]; omega) (by rw [e32]; omega)
      · refine mc_cx hmi 4 (F' := (85, [(0, .ref 542), (1, .int z), (2, .int a), (3, .int t), (4, .int k)], [.int (t - (Int32.ofInt 1)), .int ((Int16.ofInt 288).toInt32 + z), .ref 550], h', n, 0, 0)) (by with_unfolding_all rfl) ?_
        have e33 : (t - (Int32.ofInt 1)).toInt = t.toInt - 1 := mc_sub rfl (by decide) (by omega) (by omega)
        exact key _ (by rw [e33]; omega) (by rw [e33]; omega)
set_option maxRecDepth 100000 in
theorem ly_3 {l : Launch} {G : ax_T} {d : Nat} {Q : Option Value → ax_H → Nat → Prop} {h : ax_H} {n : Nat} (hd : 1 ≤ d) (hP : ∀ i : Nat, i < 14 → 0 ≤ ab_ri h 560 (i : Int)) {tot : Int} (htot : tot ≤ 24) (kk : ∀ (h' : ax_H) (z : Int32), mc_HW h' n → (∀ (k' : Nat) (i' : Int), k' ≠ 549 → k' ≠ 550 → ab_rd h' k' i' = ab_rd h k' i') → z.toInt = tot → 0 ≤ z.toInt → mc_R l G mt_X11_layRow d Q (119, [(0, .ref 542), (1, .int z)], [], h', n, 0, 0)) : ∀ (j : Nat) (h' : ax_H) (z a : Int32), mc_HW h' n → (∀ (k' : Nat) (i' : Int), k' ≠ 549 → k' ≠ 550 → ab_rd h' k' i' = ab_rd h k' i') → a.toInt + 1 = (j : Int) → j ≤ 14 → 0 ≤ z.toInt → z.toInt + sm (fS h) j = tot → mc_R l G mt_X11_layRow d Q (5, [(0, .ref 542), (1, .int z), (2, .int a)], [], h', n, 0, 0) := by
  have hmi : mt_X11_layRow ∈ mt_prog := List.mem_of_getElem? mi_X11_layRow
  intro j
  induction j with
  | zero =>
    intro h' z a H' hfr ha hj hz0 hz
    refine mc_cx hmi 1 (F' := (6, [(0, .ref 542), (1, .int z), (2, .int a)], [.int a], h', n, 0, 0)) (by with_unfolding_all rfl) ?_
    refine mc_cz hmi (c := .lt) (tg := 119) (pc' := 9) rfl rfl rfl rfl (fun (q34 : a.toInt < 0) => ?_) (fun (q34 : 0 ≤ a.toInt) => ?_)
    · refine mc_lvs (lv' := [(0, .ref 542), (1, .int z)]) (by simp) ?_
      have hz' : z.toInt + 0 = tot := hz
      exact kk h' z H' hfr (by omega) hz0
    · exact absurd q34 (by omega)
  | succ j ih =>
    intro h' z a H' hfr ha hj hz0 hz
    refine mc_cx hmi 1 (F' := (6, [(0, .ref 542), (1, .int z), (2, .int a)], [.int a], h', n, 0, 0)) (by with_unfolding_all rfl) ?_
    refine mc_cz hmi (c := .lt) (tg := 119) (pc' := 9) rfl rfl rfl rfl (fun (q35 : a.toInt < 0) => ?_) (fun (q35 : 0 ≤ a.toInt) => ?_)
    · exact absurd q35 (by omega)
    · have ea : a.toInt = (j : Int) := by omega
      have hnn : 0 ≤ sm (fS h) j := sm_nn j (fun i hi => by have := hP i (by omega); have := sg_b (ab_ri h 561 (i : Int)); unfold fS; omega)
      have hz' : z.toInt + (sm (fS h) j + fS h j) = tot := hz
      have hPj := hP j (by omega)
      have hfj : fS h j = ab_ri h 560 (j : Int) + sg (ab_ri h 561 (j : Int)) := rfl
      refine mc_cx hmi 2 (F' := (11, [(3, .int (Int32.ofInt 0)), (0, .ref 542), (1, .int z), (2, .int a)], [], h', n, 0, 0)) (by with_unfolding_all rfl) ?_
      refine mc_lvs (lv' := [(0, .ref 542), (1, .int z), (2, .int a), (3, .int (Int32.ofInt 0))]) (by simp) ?_
      refine ly_1 (h := h) a ea (by omega) hnn htot (fun h2 z2 H2 f2 e2 n2 => ?_) (ab_ri h 560 (j : Int)).toNat h' z (Int32.ofInt 0) H' hfr (by decide) (by show 0 + _ = _; omega) hz0 (by omega)
      have hgT : ab_ri h2 561 (j : Int) = ab_ri h 561 (j : Int) := ab_ri_of (f2 561 _ (by decide) (by decide))
      refine mc_cx hmi 1 (F' := (42, [(0, .ref 542), (1, .int z2), (2, .int a)], [.ref 542], h2, n, 0, 0)) (by with_unfolding_all rfl) ?_
      refine mc_getr hmi H2 (k := 542) (c := 561) (pc' := 45) rfl rfl rfl rfl rfl ?_
      refine mc_cx hmi 1 (F' := (46, [(0, .ref 542), (1, .int z2), (2, .int a)], [.int a, .ref 561], h2, n, 0, 0)) (by with_unfolding_all rfl) ?_
      refine mc_iald hmi H2 (k := 561) (i := (j : Int)) (pc' := 47) rfl rfl rfl ea (by omega) (by omega) rfl (fun y36 e37 r38 r39 => ?_)
      rw [e37] at r38 r39
      refine mc_cx hmi 3 (F' := (51, [(4, .int (Int32.ofInt 1)), (3, .int y36), (0, .ref 542), (1, .int z2), (2, .int a)], [], h2, n, 0, 0)) (by with_unfolding_all rfl) ?_
      refine mc_lvs (lv' := [(0, .ref 542), (1, .int z2), (2, .int a), (3, .int y36), (4, .int (Int32.ofInt 1))]) (by simp) ?_
      rw [hgT] at e37 r38 r39
      refine ly_2 (h := h) hd a y36 ea (by omega) (by omega) (by omega) hnn htot (fun h3 z3 H3 f3 e3 n3 => ?_) (if y36.toInt = 0 then 0 else sg y36.toInt - 1).toNat h2 z2 (Int32.ofInt 1) H2 f2 (by decide) ?_ n2 ?_
      · have hn0 : 0 ≤ (if y36.toInt = 0 then (0 : Int) else 1) := by split <;> decide
        refine mc_cx hmi 1 (F' := (96, [(0, .ref 542), (1, .int z3), (2, .int a), (3, .int y36)], [.int y36], h3, n, 0, 0)) (by with_unfolding_all rfl) ?_
        refine mc_cz hmi (c := .le) (tg := 113) (pc' := 99) rfl rfl rfl rfl (fun (q40 : y36.toInt ≤ 0) => ?_) (fun (q40 : 0 < y36.toInt) => ?_)
        · rw [if_pos (show y36.toInt = 0 by omega)] at e3
          refine mc_cx hmi 2 (F' := (5, [(2, .int (a + Int32.ofInt (-1))), (0, .ref 542), (1, .int z3), (3, .int y36)], [], h3, n, 0, 0)) (by with_unfolding_all rfl) ?_
          have e41 : (a + Int32.ofInt (-1)).toInt = (j : Int) + (-1) := mc_add ea (by decide) (by omega) (by omega)
          generalize (a + Int32.ofInt (-1)) = z42 at e41 ⊢
          refine mc_lvs (lv' := [(0, .ref 542), (1, .int z3), (2, .int z42)]) (by simp) ?_
          exact ih h3 z3 z42 H3 f3 (by omega) (by omega) n3 (by omega)
        · rw [if_neg (show ¬ y36.toInt = 0 by omega)] at e3
          refine mc_cx hmi 1 (F' := (100, [(0, .ref 542), (1, .int z3), (2, .int a), (3, .int y36)], [.ref 542], h3, n, 0, 0)) (by with_unfolding_all rfl) ?_
          refine mc_getr hmi H3 (k := 542) (c := 550) (pc' := 103) rfl rfl rfl rfl rfl ?_
          refine mc_cx hmi 4 (F' := (109, [(0, .ref 542), (1, .int z3), (2, .int a), (3, .int y36)], [.int a, .int ((Int16.ofInt 288).toInt32 + z3), .ref 550], h3, n, 0, 0)) (by with_unfolding_all rfl) ?_
          have e43 : ((Int16.ofInt 288).toInt32 + z3).toInt = 288 + z3.toInt := mc_add (by decide) rfl (by omega) (by omega)
          refine mc_iast hmi H3 (k := 550) (i := (288 + z3.toInt)) (pc' := 110) rfl rfl rfl e43 (by omega) (by omega) (by rw [ea]; omega) (by rw [ea]; omega) rfl (fun h44 H45 w46 => ?_)
          refine mc_cx hmi 3 (F' := (5, [(2, .int (a + Int32.ofInt (-1))), (1, .int (z3 + Int32.ofInt 1)), (0, .ref 542), (3, .int y36)], [], h44, n, 0, 0)) (by with_unfolding_all rfl) ?_
          have e47 : (z3 + Int32.ofInt 1).toInt = z3.toInt + 1 := mc_add rfl (by decide) (by omega) (by omega)
          have e48 : (a + Int32.ofInt (-1)).toInt = (j : Int) + (-1) := mc_add ea (by decide) (by omega) (by omega)
          generalize (a + Int32.ofInt (-1)) = z49 at e48 ⊢
          refine mc_lvs (lv' := [(0, .ref 542), (1, .int (z3 + Int32.ofInt 1)), (2, .int z49)]) (by simp) ?_
          exact ih h44 (z3 + Int32.ofInt 1) z49 H45 (fun k' i' p1 p2 => by rw [w46, if_neg (fun q => p2 q.1)]; exact f3 k' i' p1 p2) (by omega) (by omega) (by rw [e47]; omega) (by rw [e47]; omega)
      · have hs := sg_b y36.toInt; have hs2 : y36.toInt ≠ 0 → 2 ≤ sg y36.toInt := fun q => by unfold sg; rw [if_neg q]; split <;> omega
        by_cases q : y36.toInt = 0
        · rw [if_pos q, if_pos q]; decide
        · rw [if_neg q, if_neg q]; have := hs2 q; show 1 + _ = _; omega
      · have hs := sg_b y36.toInt; have hs2 : y36.toInt ≠ 0 → 2 ≤ sg y36.toInt := fun q => by unfold sg; rw [if_neg q]; split <;> omega
        rw [← e37] at e2
        by_cases q : y36.toInt = 0
        · rw [if_pos q, if_pos q]; have : sg y36.toInt = 0 := by unfold sg; rw [if_pos q]
          omega
        · rw [if_neg q, if_neg q]; have := hs2 q; omega
set_option maxRecDepth 100000 in
theorem mc_layRow {l : Launch} {G : ax_T} {d : Nat} {h : ax_H} {n : Nat} (hd : 2 ≤ d) (H : mc_HW h n) (hP : ∀ i : Nat, i < 14 → 0 ≤ ab_ri h 560 (i : Int)) (ht : sm (fS h) 14 ≤ 24) : mc_M l G d mt_X11_layRow [.ref 542] h n (fun r' h' n' => n' = n ∧ r' = none ∧ mc_HW h' n ∧ (∀ (k' : Nat) (i' : Int), k' ≠ 549 → k' ≠ 550 → ab_rd h' k' i' = ab_rd h k' i')) := by
  obtain ⟨d, rfl⟩ : ∃ e, d = e + 1 := ⟨d - 1, by omega⟩
  have hmi : mt_X11_layRow ∈ mt_prog := List.mem_of_getElem? mi_X11_layRow
  refine mc_to hmi rfl ?_
  show mc_R _ _ _ _ _ (0, [(0, .ref 542)], [], h, n, 0, 0)
  refine mc_cx hmi 4 (F' := (5, [(2, .int (Int8.ofInt 13).toInt32), (1, .int (Int32.ofInt 0)), (0, .ref 542)], [], h, n, 0, 0)) (by with_unfolding_all rfl) ?_
  refine mc_lvs (lv' := [(0, .ref 542), (1, .int (Int32.ofInt 0)), (2, .int (Int8.ofInt 13).toInt32)]) (by simp) ?_
  refine ly_3 (h := h) (by omega) hP ht (fun h2 z2 H2 f2 e2 n2 => ?_) 14 h (Int32.ofInt 0) (Int8.ofInt 13).toInt32 H (fun _ _ _ _ => rfl) (by decide) (Nat.le_refl _) (by decide) (by show 0 + _ = _; omega)
  refine mc_cx hmi 1 (F' := (120, [(0, .ref 542), (1, .int z2)], [.ref 542], h2, n, 0, 0)) (by with_unfolding_all rfl) ?_
  refine mc_getr hmi H2 (k := 542) (c := 549) (pc' := 123) rfl rfl rfl rfl rfl ?_
  refine mc_cx hmi 2 (F' := (126, [(0, .ref 542), (1, .int z2)], [.int z2, .int (Int8.ofInt 12).toInt32, .ref 549], h2, n, 0, 0)) (by with_unfolding_all rfl) ?_
  have b50 := Int32.le_toInt (z2)
  have b51 := Int32.toInt_lt (z2)
  refine mc_iast hmi H2 (k := 549) (i := 12) (pc' := 127) rfl rfl rfl (by decide) (by omega) (by omega) (by rw [show (z2).toInt = z2.toInt from rfl]; omega) (by rw [show (z2).toInt = z2.toInt from rfl]; omega) rfl (fun h52 H53 w54 => ?_)
  exact mc_ret hmi rfl rfl rfl ⟨rfl, rfl, H53, fun k' i' p1 p2 => by rw [w54, if_neg (fun q => p1 q.1)]; exact f2 k' i' p1 p2⟩
set_option maxRecDepth 100000 in
theorem mc_noteOne {l : Launch} {G : ax_T} {d : Nat} {h : ax_H} {n : Nat} (hd : 3 ≤ d) (H : mc_HW h n) (w u : Int32) (hu : u.toInt ≤ 24) (hP : ∀ i : Nat, i < 14 → 0 ≤ ab_ri h 560 (i : Int)) (ht : sm (fS h) 14 ≤ 24) (hf : ab_ri h 542 35 ≤ 4999) : mc_M l G d mt_X11_noteOne [.ref 542, .int w, .int u] h n (fun r' h' n' => n' = n ∧ r' = none ∧ mc_HW h' n ∧ (∀ (k' : Nat) (i' : Int), k' ≠ 549 → k' ≠ 550 → (k' = 542 → i' ≠ 35) → (k' = 542 → i' ≠ 36) → ab_rd h' k' i' = ab_rd h k' i')) := by
  obtain ⟨d, rfl⟩ : ∃ e, d = e + 1 := ⟨d - 1, by omega⟩
  have hmi : mt_X11_noteOne ∈ mt_prog := List.mem_of_getElem? mi_X11_noteOne
  refine mc_to hmi rfl ?_
  show mc_R _ _ _ _ _ (0, [(0, .ref 542), (1, .int w), (2, .int u)], [], h, n, 0, 0)
  have k37 : ∀ h1 : ax_H, mc_HW h1 n → (∀ (k' : Nat) (i' : Int), k' ≠ 549 → k' ≠ 550 → (k' = 542 → i' ≠ 35) → (k' = 542 → i' ≠ 36) → ab_rd h1 k' i' = ab_rd h k' i') → ab_ri h1 542 35 = ab_ri h 542 35 → mc_R l G mt_X11_noteOne d (fun r' h' n' => n' = n ∧ r' = none ∧ mc_HW h' n ∧ (∀ (k' : Nat) (i' : Int), k' ≠ 549 → k' ≠ 550 → (k' = 542 → i' ≠ 35) → (k' = 542 → i' ≠ 36) → ab_rd h' k' i' = ab_rd h k' i')) (37, [(0, .ref 542), (1, .int w), (2, .int u)], [], h1, n, 0, 0) := by
    intro h1 H1 f1 e1
    refine mc_cx hmi 2 (F' := (39, [(0, .ref 542), (1, .int w), (2, .int u)], [.ref 542, .ref 542], h1, n, 0, 0)) (by with_unfolding_all rfl) ?_
    refine mc_geti hmi H1 (k := 542) (j := 35) (pc' := 42) rfl rfl rfl rfl (fun y55 (e56 : y55.toInt = ab_ri h1 542 35) r57 r58 => ?_)
    rw [e56] at r57 r58
    refine mc_cx hmi 2 (F' := (44, [(0, .ref 542), (1, .int w), (2, .int u)], [.int (y55 + (Int32.ofInt 1)), .ref 542], h1, n, 0, 0)) (by with_unfolding_all rfl) ?_
    have e59 : (y55 + (Int32.ofInt 1)).toInt = ab_ri h1 542 35 + 1 := mc_add e56 (by decide) (by omega) (by omega)
    refine mc_puti hmi H1 (k := 542) (j := 35) (pc' := 47) rfl rfl rfl rfl (by rw [e59]; omega) (by rw [e59]; omega) rfl (fun h60 H61 w62 => ?_)
    exact mc_ret hmi rfl rfl rfl ⟨rfl, rfl, H61, fun k' i' p1 p2 p3 p4 => by rw [w62, if_neg (fun q => p3 q.1 q.2)]; exact f1 k' i' p1 p2 p3 p4⟩
  have k28 : 0 < u.toInt → mc_R l G mt_X11_noteOne d (fun r' h' n' => n' = n ∧ r' = none ∧ mc_HW h' n ∧ (∀ (k' : Nat) (i' : Int), k' ≠ 549 → k' ≠ 550 → (k' = 542 → i' ≠ 35) → (k' = 542 → i' ≠ 36) → ab_rd h' k' i' = ab_rd h k' i')) (28, [(0, .ref 542), (1, .int w), (2, .int u)], [], h, n, 0, 0) := by
    intro hu0
    refine mc_cx hmi 2 (F' := (30, [(0, .ref 542), (1, .int w), (2, .int u)], [.int u, .ref 542], h, n, 0, 0)) (by with_unfolding_all rfl) ?_
    refine mc_puti hmi H (k := 542) (j := 36) (pc' := 33) rfl rfl rfl rfl (by rw [show (u).toInt = u.toInt from rfl]; omega) (by rw [show (u).toInt = u.toInt from rfl]; omega) rfl (fun h63 H64 w65 => ?_)
    refine mc_cx hmi 1 (F' := (34, [(0, .ref 542), (1, .int w), (2, .int u)], [.ref 542], h63, n, 0, 0)) (by with_unfolding_all rfl) ?_
    have g560 : ∀ i : Int, ab_ri h63 560 i = ab_ri h 560 i := fun i => by rw [mc_ri w65, if_neg (fun q => absurd q.1 (by decide))]
    have g561 : ∀ i : Int, ab_ri h63 561 i = ab_ri h 561 i := fun i => by rw [mc_ri w65, if_neg (fun q => absurd q.1 (by decide))]
    have gf : fS h63 = fS h := funext fun i => by unfold fS; rw [g560, g561]
    refine mc_call hmi (en := (34, .invokevirtual 207, 3, (3, 184, 11, 0), [1397, 91, 1395])) rfl (q := (mt_X11_layRow, [.ref 542], [])) (mc_inv H64 (as := []) (rest := []) rfl (by with_unfolding_all rfl) rfl rfl rfl) ⟨rfl, rfl⟩ (pc' := 37) rfl (mc_mono (mc_layRow (by omega) H64 (fun i hi => by rw [g560]; exact hP i hi) (by rw [gf]; exact ht)) ?_)
    intro r2 h2 n2 P2
    obtain ⟨e1, e2, H2, f2⟩ := P2
    rw [e1, e2]
    show mc_R _ _ _ _ _ (37, [(0, .ref 542), (1, .int w), (2, .int u)], [], h2, n, 0, 0)
    exact k37 h2 H2 (fun k' i' p1 p2 p3 p4 => by rw [f2 k' i' p1 p2, w65, if_neg (fun q => p4 q.1 q.2)]) (by rw [ab_ri_of (f2 542 35 (by decide) (by decide)), mc_ri w65, if_neg (fun q => absurd q.2 (by decide))])
  refine mc_cx hmi 1 (F' := (1, [(0, .ref 542), (1, .int w), (2, .int u)], [.int u], h, n, 0, 0)) (by with_unfolding_all rfl) ?_
  refine mc_cz hmi (c := .le) (tg := 47) (pc' := 4) rfl rfl rfl rfl (fun (q66 : u.toInt ≤ 0) => ?_) (fun (q66 : 0 < u.toInt) => ?_)
  · exact mc_ret hmi rfl rfl rfl ⟨rfl, rfl, H, fun _ _ _ _ _ _ => rfl⟩
  · have hu0 : 0 < u.toInt := q66
    refine mc_cx hmi 2 (F' := (6, [(0, .ref 542), (1, .int w), (2, .int u)], [.int (Int32.ofInt (-1)), .int w], h, n, 0, 0)) (by with_unfolding_all rfl) ?_
    refine mc_ci hmi (c := .ne) (tg := 20) (pc' := 9) rfl rfl rfl rfl (by decide) (fun (q67 : w.toInt ≠ (-1)) => ?_) (fun (q67 : w.toInt = (-1)) => ?_)
    · refine mc_cx hmi 1 (F' := (21, [(0, .ref 542), (1, .int w), (2, .int u)], [.ref 542], h, n, 0, 0)) (by with_unfolding_all rfl) ?_
      refine mc_geti hmi H (k := 542) (j := 35) (pc' := 24) rfl rfl rfl rfl (fun y68 (e69 : y68.toInt = ab_ri h 542 35) r70 r71 => ?_)
      rw [e69] at r70 r71
      refine mc_cx hmi 1 (F' := (25, [(0, .ref 542), (1, .int w), (2, .int u)], [.int w, .int y68], h, n, 0, 0)) (by with_unfolding_all rfl) ?_
      refine mc_ci hmi (c := .ne) (tg := 37) (pc' := 28) rfl rfl rfl e69 rfl (fun (q72 : ab_ri h 542 35 ≠ w.toInt) => ?_) (fun (q72 : ab_ri h 542 35 = w.toInt) => ?_)
      · exact k37 h H (fun _ _ _ _ _ _ => rfl) rfl
      · exact k28 hu0
    · refine mc_cx hmi 2 (F' := (11, [(0, .ref 542), (1, .int w), (2, .int u)], [.ref 542, .int u], h, n, 0, 0)) (by with_unfolding_all rfl) ?_
      refine mc_geti hmi H (k := 542) (j := 36) (pc' := 14) rfl rfl rfl rfl (fun y73 (e74 : y73.toInt = ab_ri h 542 36) r75 r76 => ?_)
      rw [e74] at r75 r76
      refine mc_ci hmi (c := .ge) (tg := 37) (pc' := 17) rfl rfl rfl rfl e74 (fun (q77 : ab_ri h 542 36 ≤ u.toInt) => ?_) (fun (q77 : u.toInt < ab_ri h 542 36) => ?_)
      · exact k37 h H (fun _ _ _ _ _ _ => rfl) rfl
      · refine mc_cx hmi 1 (F' := (28, [(0, .ref 542), (1, .int w), (2, .int u)], [], h, n, 0, 0)) (by with_unfolding_all rfl) ?_
        exact k28 hu0
set_option maxRecDepth 100000 in
theorem mc_open {l : Launch} {G : ax_T} {d : Nat} {h : ax_H} {n : Nat} (hd : 1 ≤ d) (H : mc_HW h n) (k a : Int32) (hk0 : 0 ≤ k.toInt) (hk1 : k.toInt ≤ 5) {j : Nat} (hj : j ≤ 13) (ha : a.toInt = (j : Int)) : mc_M l G d mt_X11_open [.ref 542, .int k, .int a] h n (fun r' h' n' => n' = n ∧ r' = none ∧ mc_HW h' n ∧ NWf h h' j ∧ 0 ≤ ab_ri h' 560 (j : Int)) := by
  obtain ⟨d, rfl⟩ : ∃ e, d = e + 1 := ⟨d - 1, by omega⟩
  have hmi : mt_X11_open ∈ mt_prog := List.mem_of_getElem? mi_X11_open
  refine mc_to hmi rfl ?_
  show mc_R _ _ _ _ _ (0, [(0, .ref 542), (1, .int k), (2, .int a)], [], h, n, 0, 0)
  refine mc_cx hmi 1 (F' := (1, [(0, .ref 542), (1, .int k), (2, .int a)], [.ref 542], h, n, 0, 0)) (by with_unfolding_all rfl) ?_
  refine mc_getr hmi H (k := 542) (c := 560) (pc' := 4) rfl rfl rfl rfl rfl ?_
  refine mc_cx hmi 3 (F' := (7, [(0, .ref 542), (1, .int k), (2, .int a)], [.ref 542, .int a, .int a, .ref 560], h, n, 0, 0)) (by with_unfolding_all rfl) ?_
  refine mc_getr hmi H (k := 542) (c := 562) (pc' := 10) rfl rfl rfl rfl rfl ?_
  refine mc_cx hmi 1 (F' := (11, [(0, .ref 542), (1, .int k), (2, .int a)], [.int a, .ref 562, .int a, .int a, .ref 560], h, n, 0, 0)) (by with_unfolding_all rfl) ?_
  refine mc_iald hmi H (k := 562) (i := (j : Int)) (pc' := 12) rfl rfl rfl ha (by omega) (by omega) rfl (fun y78 e79 r80 r81 => ?_)
  rw [e79] at r80 r81
  have key : ∀ u : Int32, 0 ≤ u.toInt → u.toInt ≤ 9 → mc_R l G mt_X11_open d (fun r' h' n' => n' = n ∧ r' = none ∧ mc_HW h' n ∧ NWf h h' j ∧ 0 ≤ ab_ri h' 560 (j : Int)) (30, [(0, .ref 542), (1, .int k), (2, .int a)], [.int u, .int a, .ref 560], h, n, 0, 0) := by
    intro u hu0 hu1
    have b82 := Int32.le_toInt (u)
    have b83 := Int32.toInt_lt (u)
    refine mc_iast hmi H (k := 560) (i := (j : Int)) (pc' := 31) rfl rfl rfl ha (by omega) (by omega) (by rw [show (u).toInt = u.toInt from rfl]; omega) (by rw [show (u).toInt = u.toInt from rfl]; omega) rfl (fun h84 H85 w86 => ?_)
    refine mc_cx hmi 1 (F' := (32, [(0, .ref 542), (1, .int k), (2, .int a)], [.ref 542], h84, n, 0, 0)) (by with_unfolding_all rfl) ?_
    refine mc_getr hmi H85 (k := 542) (c := 561) (pc' := 35) rfl rfl rfl rfl rfl ?_
    refine mc_cx hmi 2 (F' := (37, [(0, .ref 542), (1, .int k), (2, .int a)], [.int (Int32.ofInt 0), .int a, .ref 561], h84, n, 0, 0)) (by with_unfolding_all rfl) ?_
    refine mc_iast hmi H85 (k := 561) (i := (j : Int)) (pc' := 38) rfl rfl rfl ha (by omega) (by omega) (by rw [show ((Int32.ofInt 0)).toInt = 0 from by decide]; omega) (by rw [show ((Int32.ofInt 0)).toInt = 0 from by decide]; omega) rfl (fun h87 H88 w89 => ?_)
    exact mc_ret hmi rfl rfl rfl ⟨rfl, rfl, H88, fun k' i' p1 p2 => by rw [w89, if_neg (fun q => p2 q.1 q.2), w86, if_neg (fun q => p1 q.1 q.2)], by rw [mc_ri w89, if_neg (fun q => absurd q.1 (by decide)), mc_ri w86, if_pos ⟨rfl, rfl⟩]; exact hu0⟩
  refine mc_ci hmi (c := .ge) (tg := 29) (pc' := 15) rfl rfl rfl ha e79 (fun (q90 : ab_ri h 562 ((j : Int)) ≤ (j : Int)) => ?_) (fun (q90 : (j : Int) < ab_ri h 562 ((j : Int))) => ?_)
  · refine mc_cx hmi 1 (F' := (30, [(0, .ref 542), (1, .int k), (2, .int a)], [.int (Int32.ofInt 0), .int a, .ref 560], h, n, 0, 0)) (by with_unfolding_all rfl) ?_
    exact key _ (by decide) (by decide)
  · refine mc_cx hmi 1 (F' := (16, [(0, .ref 542), (1, .int k), (2, .int a)], [.ref 542, .int a, .ref 560], h, n, 0, 0)) (by with_unfolding_all rfl) ?_
    refine mc_getr hmi H (k := 542) (c := 546) (pc' := 19) rfl rfl rfl rfl rfl ?_
    refine mc_cx hmi 5 (F' := (25, [(0, .ref 542), (1, .int k), (2, .int a)], [.int (((Int8.ofInt 14).toInt32 * k) + a), .ref 546, .int a, .ref 560], h, n, 0, 0)) (by with_unfolding_all rfl) ?_
    have e91 : ((Int8.ofInt 14).toInt32 * k).toInt = 14 * k.toInt := mc_mul (by decide) rfl (by omega) (by omega)
    have e92 : (((Int8.ofInt 14).toInt32 * k) + a).toInt = (14 * k.toInt) + (j : Int) := mc_add e91 ha (by omega) (by omega)
    refine mc_iald hmi H (k := 546) (i := ((14 * k.toInt) + (j : Int))) (pc' := 26) rfl rfl rfl e92 (by omega) (by omega) rfl (fun y93 e94 r95 r96 => ?_)
    rw [e94] at r95 r96
    refine mc_cx hmi 1 (F' := (30, [(0, .ref 542), (1, .int k), (2, .int a)], [.int y93, .int a, .ref 560], h, n, 0, 0)) (by with_unfolding_all rfl) ?_
    exact key _ (by rw [e94]; omega) (by rw [e94]; omega)
set_option maxRecDepth 100000 in
theorem mc_down {l : Launch} {G : ax_T} {d : Nat} {h : ax_H} {n : Nat} (hd : 2 ≤ d) (H : mc_HW h n) (k a f u : Int32) (hk0 : 0 ≤ k.toInt) (hk1 : k.toInt ≤ 5) {j : Nat} (hj : j + 1 ≤ 13) (ha : a.toInt = ((j + 1 : Nat) : Int)) (hu0 : 0 ≤ u.toInt) (hu1 : u.toInt ≤ 24) : mc_M l G d mt_X11_down [.ref 542, .int k, .int a, .int f, .int u] h n (fun r' h' n' => n' = n ∧ mc_HW h' n ∧ (∀ (k' : Nat) (i' : Int), (k' = 560 → i' ≠ (j : Int)) → (k' = 561 → i' ≠ (j : Int)) → (k' = 562 → i' ≠ (j : Int)) → (k' = 563 → i' ≠ (j : Int)) → (k' = 564 → i' ≠ (j : Int)) → ab_rd h' k' i' = ab_rd h k' i') ∧ 0 ≤ ab_ri h' 560 (j : Int) ∧ ab_ri h' 564 (j : Int) = u.toInt ∧ ∃ y : Int32, r' = some (.int y) ∧ y.toInt = (j : Int)) := by
  obtain ⟨d, rfl⟩ : ∃ e, d = e + 1 := ⟨d - 1, by omega⟩
  have hmi : mt_X11_down ∈ mt_prog := List.mem_of_getElem? mi_X11_down
  refine mc_to hmi rfl ?_
  show mc_R _ _ _ _ _ (0, [(0, .ref 542), (1, .int k), (2, .int a), (3, .int f), (4, .int u)], [], h, n, 0, 0)
  have ea : (a - Int32.ofInt 1).toInt = (j : Int) := by rw [mc_sub ha (by decide : (Int32.ofInt 1).toInt = 1) (by omega) (by omega)]; omega
  refine mc_cx hmi 1 (F' := (1, [(0, .ref 542), (1, .int k), (2, .int a), (3, .int f), (4, .int u)], [.ref 542], h, n, 0, 0)) (by with_unfolding_all rfl) ?_
  refine mc_getr hmi H (k := 542) (c := 561) (pc' := 4) rfl rfl rfl rfl rfl ?_
  refine mc_cx hmi 1 (F' := (5, [(0, .ref 542), (1, .int k), (2, .int a), (3, .int f), (4, .int u)], [.int a, .ref 561], h, n, 0, 0)) (by with_unfolding_all rfl) ?_
  refine mc_iald hmi H (k := 561) (i := ((j + 1 : Nat) : Int)) (pc' := 6) rfl rfl rfl ha (by omega) (by omega) rfl (fun y97 e98 r99 r100 => ?_)
  rw [e98] at r99 r100
  refine mc_cx hmi 2 (F' := (9, [(5, .int y97), (0, .ref 542), (1, .int k), (2, .int a), (3, .int f), (4, .int u)], [.ref 542], h, n, 0, 0)) (by with_unfolding_all rfl) ?_
  refine mc_getr hmi H (k := 542) (c := 563) (pc' := 12) rfl rfl rfl rfl rfl ?_
  refine mc_cx hmi 4 (F' := (16, [(5, .int y97), (0, .ref 542), (1, .int k), (2, .int a), (3, .int f), (4, .int u)], [.int f, .int (a - (Int32.ofInt 1)), .ref 563], h, n, 0, 0)) (by with_unfolding_all rfl) ?_
  have b101 := Int32.le_toInt (f)
  have b102 := Int32.toInt_lt (f)
  refine mc_iast hmi H (k := 563) (i := (j : Int)) (pc' := 17) rfl rfl rfl ea (by omega) (by omega) (by rw [show (f).toInt = f.toInt from rfl]; omega) (by rw [show (f).toInt = f.toInt from rfl]; omega) rfl (fun h103 H104 w105 => ?_)
  refine mc_cx hmi 1 (F' := (18, [(5, .int y97), (0, .ref 542), (1, .int k), (2, .int a), (3, .int f), (4, .int u)], [.ref 542], h103, n, 0, 0)) (by with_unfolding_all rfl) ?_
  refine mc_getr hmi H104 (k := 542) (c := 564) (pc' := 21) rfl rfl rfl rfl rfl ?_
  refine mc_cx hmi 4 (F' := (26, [(5, .int y97), (0, .ref 542), (1, .int k), (2, .int a), (3, .int f), (4, .int u)], [.int u, .int (a - (Int32.ofInt 1)), .ref 564], h103, n, 0, 0)) (by with_unfolding_all rfl) ?_
  have b106 := Int32.le_toInt (u)
  have b107 := Int32.toInt_lt (u)
  refine mc_iast hmi H104 (k := 564) (i := (j : Int)) (pc' := 27) rfl rfl rfl ea (by omega) (by omega) (by rw [show (u).toInt = u.toInt from rfl]; omega) (by rw [show (u).toInt = u.toInt from rfl]; omega) rfl (fun h108 H109 w110 => ?_)
  refine mc_cx hmi 1 (F' := (28, [(5, .int y97), (0, .ref 542), (1, .int k), (2, .int a), (3, .int f), (4, .int u)], [.ref 542], h108, n, 0, 0)) (by with_unfolding_all rfl) ?_
  refine mc_getr hmi H109 (k := 542) (c := 562) (pc' := 31) rfl rfl rfl rfl rfl ?_
  refine mc_cx hmi 4 (F' := (36, [(5, .int y97), (0, .ref 542), (1, .int k), (2, .int a), (3, .int f), (4, .int u)], [.int y97, .int (a - (Int32.ofInt 1)), .ref 562], h108, n, 0, 0)) (by with_unfolding_all rfl) ?_
  have key : ∀ v : Int32, 0 ≤ v.toInt → v.toInt ≤ 14 → mc_R l G mt_X11_down d (fun r' h' n' => n' = n ∧ mc_HW h' n ∧ (∀ (k' : Nat) (i' : Int), (k' = 560 → i' ≠ (j : Int)) → (k' = 561 → i' ≠ (j : Int)) → (k' = 562 → i' ≠ (j : Int)) → (k' = 563 → i' ≠ (j : Int)) → (k' = 564 → i' ≠ (j : Int)) → ab_rd h' k' i' = ab_rd h k' i') ∧ 0 ≤ ab_ri h' 560 (j : Int) ∧ ab_ri h' 564 (j : Int) = u.toInt ∧ ∃ y : Int32, r' = some (.int y) ∧ y.toInt = (j : Int)) (67, [(5, .int y97), (0, .ref 542), (1, .int k), (2, .int a), (3, .int f), (4, .int u)], [.int v, .int (a - (Int32.ofInt 1)), .ref 562], h108, n, 0, 0) := by
    intro v hv0 hv1
    have b111 := Int32.le_toInt (v)
    have b112 := Int32.toInt_lt (v)
    refine mc_iast hmi H109 (k := 562) (i := (j : Int)) (pc' := 68) rfl rfl rfl ea (by omega) (by omega) (by rw [show (v).toInt = v.toInt from rfl]; omega) (by rw [show (v).toInt = v.toInt from rfl]; omega) rfl (fun h113 H114 w115 => ?_)
    refine mc_cx hmi 5 (F' := (73, [(5, .int y97), (0, .ref 542), (1, .int k), (2, .int a), (3, .int f), (4, .int u)], [.int (a - (Int32.ofInt 1)), .int k, .ref 542], h113, n, 0, 0)) (by with_unfolding_all rfl) ?_
    refine mc_call hmi (en := (73, .invokevirtual 184, 3, (3, 182, 11, 0), [1370, 85, 1368])) rfl (q := (mt_X11_open, [.ref 542, .int k, .int (a - (Int32.ofInt 1))], [])) (mc_inv H114 (as := [.int k, .int (a - (Int32.ofInt 1))]) (rest := []) rfl (by with_unfolding_all rfl) rfl rfl rfl) ⟨rfl, rfl⟩ (pc' := 76) rfl (mc_mono (mc_open (by omega) H114 k (a - (Int32.ofInt 1)) hk0 hk1 (j := j) (by omega) ea) ?_)
    intro r5 h5 n5 P5
    obtain ⟨e1, e2, H5, f5, p5⟩ := P5
    rw [e1, e2]
    show mc_R _ _ _ _ _ (76, [(5, .int y97), (0, .ref 542), (1, .int k), (2, .int a), (3, .int f), (4, .int u)], [], h5, n, 0, 0)
    refine mc_cx hmi 3 (F' := (79, [(5, .int y97), (0, .ref 542), (1, .int k), (2, .int a), (3, .int f), (4, .int u)], [.int (a - (Int32.ofInt 1))], h5, n, 0, 0)) (by with_unfolding_all rfl) ?_
    refine mc_ret hmi rfl rfl rfl ⟨rfl, H5, fun k' i' p1 p2 p3 p4 p5 => ?_, p5, ?_, _, rfl, ea⟩
    · rw [f5 k' i' p1 p2, w115, if_neg (fun q => p3 q.1 q.2), w110, if_neg (fun q => p5 q.1 q.2), w105, if_neg (fun q => p4 q.1 q.2)]
    · rw [ab_ri_of (f5 564 (j : Int) (fun q => absurd q (by decide)) (fun q => absurd q (by decide))), mc_ri w115, if_neg (fun q => absurd q.1 (by decide)), mc_ri w110, if_pos ⟨rfl, rfl⟩]
  refine mc_cz hmi (c := .ne) (tg := 48) (pc' := 39) rfl rfl rfl e98 (fun (q116 : ab_ri h 561 (((j + 1 : Nat) : Int)) ≠ 0) => ?_) (fun (q116 : ab_ri h 561 (((j + 1 : Nat) : Int)) = 0) => ?_)
  · refine mc_cx hmi 2 (F' := (52, [(5, .int y97), (0, .ref 542), (1, .int k), (2, .int a), (3, .int f), (4, .int u)], [.int (Int8.ofInt 15).toInt32, .int y97, .int (a - (Int32.ofInt 1)), .ref 562], h108, n, 0, 0)) (by with_unfolding_all rfl) ?_
    refine mc_ci hmi (c := .ge) (tg := 62) (pc' := 55) rfl rfl rfl e98 (by decide) (fun (q121 : 15 ≤ ab_ri h 561 (((j + 1 : Nat) : Int))) => ?_) (fun (q121 : ab_ri h 561 (((j + 1 : Nat) : Int)) < 15) => ?_)
    · refine mc_cx hmi 3 (F' := (67, [(5, .int y97), (0, .ref 542), (1, .int k), (2, .int a), (3, .int f), (4, .int u)], [.int (y97 - (Int8.ofInt 15).toInt32), .int (a - (Int32.ofInt 1)), .ref 562], h108, n, 0, 0)) (by with_unfolding_all rfl) ?_
      have e122 : (y97 - (Int8.ofInt 15).toInt32).toInt = ab_ri h 561 (((j + 1 : Nat) : Int)) - 15 := mc_sub e98 (by decide) (by omega) (by omega)
      exact key _ (by rw [e122]; omega) (by rw [e122]; omega)
    · refine mc_cx hmi 4 (F' := (67, [(5, .int y97), (0, .ref 542), (1, .int k), (2, .int a), (3, .int f), (4, .int u)], [.int (y97 - (Int32.ofInt 1)), .int (a - (Int32.ofInt 1)), .ref 562], h108, n, 0, 0)) (by with_unfolding_all rfl) ?_
      have e123 : (y97 - (Int32.ofInt 1)).toInt = ab_ri h 561 (((j + 1 : Nat) : Int)) - 1 := mc_sub e98 (by decide) (by omega) (by omega)
      exact key _ (by rw [e123]; omega) (by rw [e123]; omega)
  · refine mc_cx hmi 1 (F' := (40, [(5, .int y97), (0, .ref 542), (1, .int k), (2, .int a), (3, .int f), (4, .int u)], [.ref 542, .int (a - (Int32.ofInt 1)), .ref 562], h108, n, 0, 0)) (by with_unfolding_all rfl) ?_
    refine mc_getr hmi H109 (k := 542) (c := 562) (pc' := 43) rfl rfl rfl rfl rfl ?_
    refine mc_cx hmi 1 (F' := (44, [(5, .int y97), (0, .ref 542), (1, .int k), (2, .int a), (3, .int f), (4, .int u)], [.int a, .ref 562, .int (a - (Int32.ofInt 1)), .ref 562], h108, n, 0, 0)) (by with_unfolding_all rfl) ?_
    refine mc_iald hmi H109 (k := 562) (i := ((j + 1 : Nat) : Int)) (pc' := 45) rfl rfl rfl ha (by omega) (by omega) rfl (fun y117 e118 r119 r120 => ?_)
    rw [e118] at r119 r120
    refine mc_cx hmi 1 (F' := (67, [(5, .int y97), (0, .ref 542), (1, .int k), (2, .int a), (3, .int f), (4, .int u)], [.int y117, .int (a - (Int32.ofInt 1)), .ref 562], h108, n, 0, 0)) (by with_unfolding_all rfl) ?_
    exact key _ (by rw [e118]; omega) (by rw [e118]; omega)
