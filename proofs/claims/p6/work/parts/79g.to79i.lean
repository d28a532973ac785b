section
/-! ===== by hand: keepsAll over what is filled in, in the reference (ways printed by wip/hand/h_keep.py) ===== -/
set_option maxRecDepth 100000 in
theorem mb_loop {l : Launch} {G : ax_T} {d : Nat} {h : ax_H} {n : Nat} (hd : 1 ≤ d) (H : mc_HW h n) (k a t x c : Int32) (hk0 : 0 ≤ k.toInt) (hk1 : k.toInt ≤ 5) (ha0 : 0 ≤ a.toInt) (ha1 : a.toInt ≤ 13) : ∀ (e : Nat) (b : Int32), b.toInt + (e : Int) = 14 → a.toInt < b.toInt → mc_R l G mt_X11_mayBegin d (mc_P h n fun y => y.toInt = 0 ∨ y.toInt = 1) (5, [(0, .ref 542), (1, .int k), (2, .int a), (3, .int t), (4, .int x), (5, .int c), (6, .int b)], [], h, n, 0, 0) := by
  have hmi : mt_X11_mayBegin ∈ mt_prog := List.mem_of_getElem? mi_X11_mayBegin
  intro e
  induction e with
  | zero =>
    intro b hb hab
    refine mc_cx hmi 2 (F' := (9, [(0, .ref 542), (1, .int k), (2, .int a), (3, .int t), (4, .int x), (5, .int c), (6, .int b)], [.int (Int8.ofInt 14).toInt32, .int b], h, n, 0, 0)) (by with_unfolding_all rfl) ?_
    refine mc_ci hmi (c := .ge) (tg := 80) (pc' := 12) rfl rfl rfl rfl (by decide) (fun (q1 : 14 ≤ b.toInt) => ?_) (fun (q1 : b.toInt < 14) => ?_)
    · refine mc_cx hmi 1 (F' := (81, [(0, .ref 542), (1, .int k), (2, .int a), (3, .int t), (4, .int x), (5, .int c), (6, .int b)], [.int (Int32.ofInt 0)], h, n, 0, 0)) (by with_unfolding_all rfl) ?_
      exact mc_ret hmi rfl rfl rfl ⟨rfl, rfl, _, rfl, by decide⟩
    · exact absurd q1 (by omega)
  | succ e ih =>
    intro b hb hab
    refine mc_cx hmi 2 (F' := (9, [(0, .ref 542), (1, .int k), (2, .int a), (3, .int t), (4, .int x), (5, .int c), (6, .int b)], [.int (Int8.ofInt 14).toInt32, .int b], h, n, 0, 0)) (by with_unfolding_all rfl) ?_
    refine mc_ci hmi (c := .ge) (tg := 80) (pc' := 12) rfl rfl rfl rfl (by decide) (fun (q2 : 14 ≤ b.toInt) => ?_) (fun (q2 : b.toInt < 14) => ?_)
    · exact absurd q2 (by omega)
    · have nxt : mc_R l G mt_X11_mayBegin d (mc_P h n fun y => y.toInt = 0 ∨ y.toInt = 1) (74, [(0, .ref 542), (1, .int k), (2, .int a), (3, .int t), (4, .int x), (5, .int c), (6, .int b)], [], h, n, 0, 0) := by
        refine mc_cx hmi 2 (F' := (5, [(6, .int (b + Int32.ofInt 1)), (0, .ref 542), (1, .int k), (2, .int a), (3, .int t), (4, .int x), (5, .int c)], [], h, n, 0, 0)) (by with_unfolding_all rfl) ?_
        have e3 : (b + Int32.ofInt 1).toInt = b.toInt + 1 := mc_add rfl (by decide) (by omega) (by omega)
        refine mc_lvs (lv' := [(0, .ref 542), (1, .int k), (2, .int a), (3, .int t), (4, .int x), (5, .int c), (6, .int (b + Int32.ofInt 1))]) (by simp) ?_
        exact ih (b + Int32.ofInt 1) (by rw [e3]; omega) (by rw [e3]; omega)
      have key : ∀ u : Int32, mc_R l G mt_X11_mayBegin d (mc_P h n fun y => y.toInt = 0 ∨ y.toInt = 1) (51, [(0, .ref 542), (1, .int k), (2, .int a), (3, .int t), (4, .int x), (5, .int c), (6, .int b)], [.int u], h, n, 0, 0) := by
        intro u
        refine mc_cx hmi 2 (F' := (55, [(7, .int u), (0, .ref 542), (1, .int k), (2, .int a), (3, .int t), (4, .int x), (5, .int c), (6, .int b)], [.int u], h, n, 0, 0)) (by with_unfolding_all rfl) ?_
        refine mc_cz hmi (c := .eq) (tg := 74) (pc' := 58) rfl rfl rfl rfl (fun (q4 : u.toInt = 0) => ?_) (fun (q4 : u.toInt ≠ 0) => ?_)
        · refine mc_lvs (lv' := [(0, .ref 542), (1, .int k), (2, .int a), (3, .int t), (4, .int x), (5, .int c), (6, .int b)]) (by simp) ?_
          exact nxt
        · refine mc_cx hmi 2 (F' := (62, [(7, .int u), (0, .ref 542), (1, .int k), (2, .int a), (3, .int t), (4, .int x), (5, .int c), (6, .int b)], [.int x, .int b], h, n, 0, 0)) (by with_unfolding_all rfl) ?_
          refine mc_ci hmi (c := .gt) (tg := 74) (pc' := 65) rfl rfl rfl rfl rfl (fun (q5 : x.toInt < b.toInt) => ?_) (fun (q5 : b.toInt ≤ x.toInt) => ?_)
          · refine mc_lvs (lv' := [(0, .ref 542), (1, .int k), (2, .int a), (3, .int t), (4, .int x), (5, .int c), (6, .int b)]) (by simp) ?_
            exact nxt
          · refine mc_cx hmi 2 (F' := (69, [(7, .int u), (0, .ref 542), (1, .int k), (2, .int a), (3, .int t), (4, .int x), (5, .int c), (6, .int b)], [.int c, .int b], h, n, 0, 0)) (by with_unfolding_all rfl) ?_
            refine mc_ci hmi (c := .ge) (tg := 74) (pc' := 72) rfl rfl rfl rfl rfl (fun (q6 : c.toInt ≤ b.toInt) => ?_) (fun (q6 : b.toInt < c.toInt) => ?_)
            · refine mc_lvs (lv' := [(0, .ref 542), (1, .int k), (2, .int a), (3, .int t), (4, .int x), (5, .int c), (6, .int b)]) (by simp) ?_
              exact nxt
            · refine mc_cx hmi 1 (F' := (73, [(7, .int u), (0, .ref 542), (1, .int k), (2, .int a), (3, .int t), (4, .int x), (5, .int c), (6, .int b)], [.int (Int32.ofInt 1)], h, n, 0, 0)) (by with_unfolding_all rfl) ?_
              exact mc_ret hmi rfl rfl rfl ⟨rfl, rfl, _, rfl, by decide⟩
      have k46 : mc_R l G mt_X11_mayBegin d (mc_P h n fun y => y.toInt = 0 ∨ y.toInt = 1) (46, [(0, .ref 542), (1, .int k), (2, .int a), (3, .int t), (4, .int x), (5, .int c), (6, .int b)], [], h, n, 0, 0) := by
        refine mc_cx hmi 2 (F' := (51, [(0, .ref 542), (1, .int k), (2, .int a), (3, .int t), (4, .int x), (5, .int c), (6, .int b)], [.int (Int32.ofInt 1)], h, n, 0, 0)) (by with_unfolding_all rfl) ?_
        exact key _
      have k50 : mc_R l G mt_X11_mayBegin d (mc_P h n fun y => y.toInt = 0 ∨ y.toInt = 1) (50, [(0, .ref 542), (1, .int k), (2, .int a), (3, .int t), (4, .int x), (5, .int c), (6, .int b)], [], h, n, 0, 0) := by
        refine mc_cx hmi 1 (F' := (51, [(0, .ref 542), (1, .int k), (2, .int a), (3, .int t), (4, .int x), (5, .int c), (6, .int b)], [.int (Int32.ofInt 0)], h, n, 0, 0)) (by with_unfolding_all rfl) ?_
        exact key _
      have k29 : mc_R l G mt_X11_mayBegin d (mc_P h n fun y => y.toInt = 0 ∨ y.toInt = 1) (29, [(0, .ref 542), (1, .int k), (2, .int a), (3, .int t), (4, .int x), (5, .int c), (6, .int b)], [], h, n, 0, 0) := by
        refine mc_cx hmi 2 (F' := (31, [(0, .ref 542), (1, .int k), (2, .int a), (3, .int t), (4, .int x), (5, .int c), (6, .int b)], [.int (Int32.ofInt 2), .int t], h, n, 0, 0)) (by with_unfolding_all rfl) ?_
        refine mc_ci hmi (c := .gt) (tg := 50) (pc' := 34) rfl rfl rfl rfl (by decide) (fun (q7 : 2 < t.toInt) => ?_) (fun (q7 : t.toInt ≤ 2) => ?_)
        · exact k50
        · refine mc_cx hmi 5 (F' := (40, [(0, .ref 542), (1, .int k), (2, .int a), (3, .int t), (4, .int x), (5, .int c), (6, .int b)], [.int (Int32.ofInt 2), .int b, .int a, .int k, .ref 542], h, n, 0, 0)) (by with_unfolding_all rfl) ?_
          refine mc_callP hmi (en := (40, .invokevirtual 154, 3, (3, 169, 11, 0), [1342, 81, 1340])) rfl (q := (mt_X11_mayTake, [.ref 542, .int k, .int a, .int b, .int (Int32.ofInt 2)], [])) (mc_inv H (as := [.int k, .int a, .int b, .int (Int32.ofInt 2)]) (rest := []) rfl (by with_unfolding_all rfl) rfl rfl rfl) ⟨rfl, rfl⟩ (pc' := 43) rfl (mc_mayTake hd H k a b (Int32.ofInt 2) hk0 hk1 ha0 ha1) (fun y8 e9 => ?_)
          refine mc_cz hmi (c := .eq) (tg := 50) (pc' := 46) rfl rfl rfl rfl (fun (q10 : y8.toInt = 0) => ?_) (fun (q10 : y8.toInt ≠ 0) => ?_)
          · exact k50
          · exact k46
      refine mc_cx hmi 2 (F' := (14, [(0, .ref 542), (1, .int k), (2, .int a), (3, .int t), (4, .int x), (5, .int c), (6, .int b)], [.int (Int32.ofInt 1), .int t], h, n, 0, 0)) (by with_unfolding_all rfl) ?_
      refine mc_ci hmi (c := .ne) (tg := 29) (pc' := 17) rfl rfl rfl rfl (by decide) (fun (q11 : t.toInt ≠ 1) => ?_) (fun (q11 : t.toInt = 1) => ?_)
      · exact k29
      · refine mc_cx hmi 5 (F' := (23, [(0, .ref 542), (1, .int k), (2, .int a), (3, .int t), (4, .int x), (5, .int c), (6, .int b)], [.int (Int32.ofInt 1), .int b, .int a, .int k, .ref 542], h, n, 0, 0)) (by with_unfolding_all rfl) ?_
        refine mc_callP hmi (en := (23, .invokevirtual 154, 3, (3, 169, 11, 0), [1342, 81, 1340])) rfl (q := (mt_X11_mayTake, [.ref 542, .int k, .int a, .int b, .int (Int32.ofInt 1)], [])) (mc_inv H (as := [.int k, .int a, .int b, .int (Int32.ofInt 1)]) (rest := []) rfl (by with_unfolding_all rfl) rfl rfl rfl) ⟨rfl, rfl⟩ (pc' := 26) rfl (mc_mayTake hd H k a b (Int32.ofInt 1) hk0 hk1 ha0 ha1) (fun y12 e13 => ?_)
        refine mc_cz hmi (c := .ne) (tg := 46) (pc' := 29) rfl rfl rfl rfl (fun (q14 : y12.toInt ≠ 0) => ?_) (fun (q14 : y12.toInt = 0) => ?_)
        · exact k46
        · exact k29
set_option maxRecDepth 100000 in
theorem mc_mayBegin {l : Launch} {G : ax_T} {d : Nat} {h : ax_H} {n : Nat} (hd : 2 ≤ d) (H : mc_HW h n) (k a t x c : Int32) (hk0 : 0 ≤ k.toInt) (hk1 : k.toInt ≤ 5) (ha0 : 0 ≤ a.toInt) (ha1 : a.toInt ≤ 13) : mc_M l G d mt_X11_mayBegin [.ref 542, .int k, .int a, .int t, .int x, .int c] h n (mc_P h n fun y => y.toInt = 0 ∨ y.toInt = 1) := by
  obtain ⟨d, rfl⟩ : ∃ e, d = e + 1 := ⟨d - 1, by omega⟩
  have hmi : mt_X11_mayBegin ∈ mt_prog := List.mem_of_getElem? mi_X11_mayBegin
  refine mc_to hmi rfl ?_
  show mc_R _ _ _ _ _ (0, [(0, .ref 542), (1, .int k), (2, .int a), (3, .int t), (4, .int x), (5, .int c)], [], h, n, 0, 0)
  refine mc_cx hmi 4 (F' := (5, [(6, .int (a + (Int32.ofInt 1))), (0, .ref 542), (1, .int k), (2, .int a), (3, .int t), (4, .int x), (5, .int c)], [], h, n, 0, 0)) (by with_unfolding_all rfl) ?_
  have e15 : (a + (Int32.ofInt 1)).toInt = a.toInt + 1 := mc_add rfl (by decide) (by omega) (by omega)
  refine mc_lvs (lv' := [(0, .ref 542), (1, .int k), (2, .int a), (3, .int t), (4, .int x), (5, .int c), (6, .int (a + (Int32.ofInt 1)))]) (by simp) ?_
  exact mb_loop (by omega) H k a t x c hk0 hk1 ha0 ha1 (13 - a.toInt).toNat (a + (Int32.ofInt 1)) (by rw [e15]; omega) (by rw [e15]; omega)
/-- a first sign that is followed by another one has no third behind it -/
def ka_K (f : Int → Int) (s a : Int) : Prop := ∀ p q : Int, 0 ≤ p → p < a → p < q → q < s - 1 → f p = 0 → f q = 0
def ka_Q (f : Int → Int) (s w : Int) (y : Int32) : Prop := (y.toInt = 0 ∨ y.toInt = 1) ∧ (y.toInt = 1 → w ≠ 0 → ka_K f s s)
set_option maxRecDepth 100000 in
theorem ka_0 {f : Int → Int} {s w : Int} {y : Int32} (h : y.toInt = 0) : ka_Q f s w y := ⟨Or.inl h, fun q => by omega⟩
set_option maxRecDepth 100000 in
theorem ka_b {l : Launch} {G : ax_T} {d : Nat} {h : ax_H} {n : Nat} (hd0 : 2 ≤ d) (H : mc_HW h n) (f s k w : Int32) (hf : f.toInt = 0) (hs : s.toInt ≤ 21) (hk0 : 0 ≤ k.toInt) (hk1 : k.toInt ≤ 5) (h13 : ∀ j : Int, 0 ≤ j → j < s.toInt → 0 ≤ ab_ri h 571 j ∧ ab_ri h 571 j ≤ 13) (hd cp at' ph x : Int32) (kk : ∀ e : Int32, at'.toInt < e.toInt → e.toInt ≤ s.toInt → (∀ j : Int, at'.toInt ≤ j → j < e.toInt → ab_ri h 571 j = x.toInt) → (s.toInt ≤ e.toInt ∨ ab_ri h 571 e.toInt ≠ x.toInt) → mc_R l G mt_X11_keepsAll d (mc_P h n (ka_Q (ab_ri h 571) s.toInt w.toInt)) (55, [(0, .ref 542), (1, .ref 571), (2, .int f), (3, .int s), (4, .int k), (5, .int w), (6, .int hd), (7, .int cp), (8, .int at'), (9, .int ph), (10, .int x), (11, .int e)], [], h, n, 0, 0)) : ∀ (c : Nat) (e : Int32), e.toInt + (c : Int) = s.toInt → (at'.toInt < e.toInt ∨ e.toInt = at'.toInt ∧ e.toInt < s.toInt ∧ ab_ri h 571 e.toInt = x.toInt) → 0 ≤ at'.toInt → (∀ j : Int, at'.toInt ≤ j → j < e.toInt → ab_ri h 571 j = x.toInt) → mc_R l G mt_X11_keepsAll d (mc_P h n (ka_Q (ab_ri h 571) s.toInt w.toInt)) (32, [(0, .ref 542), (1, .ref 571), (2, .int f), (3, .int s), (4, .int k), (5, .int w), (6, .int hd), (7, .int cp), (8, .int at'), (9, .int ph), (10, .int x), (11, .int e)], [], h, n, 0, 0) := by
  have hmi : mt_X11_keepsAll ∈ mt_prog := List.mem_of_getElem? mi_X11_keepsAll
  intro c
  induction c with
  | zero =>
    intro e he hae ha0 hrun
    refine mc_cx hmi 2 (F' := (35, [(0, .ref 542), (1, .ref 571), (2, .int f), (3, .int s), (4, .int k), (5, .int w), (6, .int hd), (7, .int cp), (8, .int at'), (9, .int ph), (10, .int x), (11, .int e)], [.int s, .int e], h, n, 0, 0)) (by with_unfolding_all rfl) ?_
    refine mc_ci hmi (c := .ge) (tg := 55) (pc' := 38) rfl rfl rfl rfl rfl (fun (q16 : s.toInt ≤ e.toInt) => ?_) (fun (q16 : e.toInt < s.toInt) => ?_)
    · exact kk e (by omega) (by omega) hrun (Or.inl (by omega))
    · exact absurd q16 (by omega)
  | succ c ih =>
    intro e he hae ha0 hrun
    refine mc_cx hmi 2 (F' := (35, [(0, .ref 542), (1, .ref 571), (2, .int f), (3, .int s), (4, .int k), (5, .int w), (6, .int hd), (7, .int cp), (8, .int at'), (9, .int ph), (10, .int x), (11, .int e)], [.int s, .int e], h, n, 0, 0)) (by with_unfolding_all rfl) ?_
    refine mc_ci hmi (c := .ge) (tg := 55) (pc' := 38) rfl rfl rfl rfl rfl (fun (q17 : s.toInt ≤ e.toInt) => ?_) (fun (q17 : e.toInt < s.toInt) => ?_)
    · exact absurd q17 (by omega)
    · refine mc_cx hmi 4 (F' := (43, [(0, .ref 542), (1, .ref 571), (2, .int f), (3, .int s), (4, .int k), (5, .int w), (6, .int hd), (7, .int cp), (8, .int at'), (9, .int ph), (10, .int x), (11, .int e)], [.int (f + e), .ref 571], h, n, 0, 0)) (by with_unfolding_all rfl) ?_
      have e18 : (f + e).toInt = 0 + e.toInt := mc_add hf rfl (by omega) (by omega)
      refine mc_iald hmi H (k := 571) (i := (0 + e.toInt)) (pc' := 44) rfl rfl rfl e18 (by omega) (by omega) rfl (fun y19 e20 r21 r22 => ?_)
      rw [e20] at r21 r22
      refine mc_cx hmi 1 (F' := (46, [(0, .ref 542), (1, .ref 571), (2, .int f), (3, .int s), (4, .int k), (5, .int w), (6, .int hd), (7, .int cp), (8, .int at'), (9, .int ph), (10, .int x), (11, .int e)], [.int x, .int y19], h, n, 0, 0)) (by with_unfolding_all rfl) ?_
      rw [Int.zero_add] at *
      refine mc_ci hmi (c := .ne) (tg := 55) (pc' := 49) rfl rfl rfl e20 rfl (fun (q23 : ab_ri h 571 e.toInt ≠ x.toInt) => ?_) (fun (q23 : ab_ri h 571 e.toInt = x.toInt) => ?_)
      · exact kk e (hae.elim (fun q => q) (fun q => absurd q.2.2 q23)) (by omega) hrun (Or.inr q23)
      · refine mc_cx hmi 2 (F' := (32, [(11, .int (e + Int32.ofInt 1)), (0, .ref 542), (1, .ref 571), (2, .int f), (3, .int s), (4, .int k), (5, .int w), (6, .int hd), (7, .int cp), (8, .int at'), (9, .int ph), (10, .int x)], [], h, n, 0, 0)) (by with_unfolding_all rfl) ?_
        have e24 : (e + Int32.ofInt 1).toInt = e.toInt + 1 := mc_add rfl (by decide) (by omega) (by omega)
        refine mc_lvs (lv' := [(0, .ref 542), (1, .ref 571), (2, .int f), (3, .int s), (4, .int k), (5, .int w), (6, .int hd), (7, .int cp), (8, .int at'), (9, .int ph), (10, .int x), (11, .int (e + Int32.ofInt 1))]) (by simp) ?_
        refine ih (e + Int32.ofInt 1) (by rw [e24]; omega) (Or.inl (by rw [e24]; omega)) ha0 (fun j h1 h2 => ?_)
        rw [e24] at h2
        by_cases ej : j = e.toInt
        · rw [ej]; exact q23
        · exact hrun j h1 (by omega)
set_option maxRecDepth 100000 in
theorem ka_a {l : Launch} {G : ax_T} {d : Nat} {h : ax_H} {n : Nat} (hd0 : 2 ≤ d) (H : mc_HW h n) (f s k w : Int32) (hf : f.toInt = 0) (hs : s.toInt ≤ 21) (hk0 : 0 ≤ k.toInt) (hk1 : k.toInt ≤ 5) (h13 : ∀ j : Int, 0 ≤ j → j < s.toInt → 0 ≤ ab_ri h 571 j ∧ ab_ri h 571 j ≤ 13) : ∀ (c : Nat) (hd cp at' ph : Int32), (s.toInt - at'.toInt).toNat ≤ c → 0 ≤ at'.toInt → at'.toInt ≤ s.toInt → 0 ≤ hd.toInt → hd.toInt ≤ 13 → (ka_K (ab_ri h 571) s.toInt at'.toInt ∨ (cp.toInt = 0 ∧ at'.toInt < s.toInt)) → mc_R l G mt_X11_keepsAll d (mc_P h n (ka_Q (ab_ri h 571) s.toInt w.toInt)) (14, [(0, .ref 542), (1, .ref 571), (2, .int f), (3, .int s), (4, .int k), (5, .int w), (6, .int hd), (7, .int cp), (8, .int at'), (9, .int ph)], [], h, n, 0, 0) := by
  have hmi : mt_X11_keepsAll ∈ mt_prog := List.mem_of_getElem? mi_X11_keepsAll
  intro c
  induction c with
  | zero =>
    intro hd cp at' ph hc ha0 has hh0 hh1 hinv
    refine mc_cx hmi 2 (F' := (17, [(0, .ref 542), (1, .ref 571), (2, .int f), (3, .int s), (4, .int k), (5, .int w), (6, .int hd), (7, .int cp), (8, .int at'), (9, .int ph)], [.int s, .int at'], h, n, 0, 0)) (by with_unfolding_all rfl) ?_
    refine mc_ci hmi (c := .ge) (tg := 240) (pc' := 20) rfl rfl rfl rfl rfl (fun (q25 : s.toInt ≤ at'.toInt) => ?_) (fun (q25 : at'.toInt < s.toInt) => ?_)
    · refine mc_cx hmi 1 (F' := (241, [(0, .ref 542), (1, .ref 571), (2, .int f), (3, .int s), (4, .int k), (5, .int w), (6, .int hd), (7, .int cp), (8, .int at'), (9, .int ph)], [.int (Int32.ofInt 1)], h, n, 0, 0)) (by with_unfolding_all rfl) ?_
      refine mc_ret hmi rfl rfl rfl ⟨rfl, rfl, _, rfl, Or.inr (by decide), fun _ _ => ?_⟩
      rcases hinv with hinv | hinv
      · intro p q p0 p1 p2 p3 p4; exact hinv p q p0 (by omega) p2 p3 p4
      · exact absurd hinv.2 (by omega)
    · exact absurd q25 (by omega)
  | succ c ih =>
    intro hd cp at' ph hc ha0 has hh0 hh1 hinv
    refine mc_cx hmi 2 (F' := (17, [(0, .ref 542), (1, .ref 571), (2, .int f), (3, .int s), (4, .int k), (5, .int w), (6, .int hd), (7, .int cp), (8, .int at'), (9, .int ph)], [.int s, .int at'], h, n, 0, 0)) (by with_unfolding_all rfl) ?_
    refine mc_ci hmi (c := .ge) (tg := 240) (pc' := 20) rfl rfl rfl rfl rfl (fun (q26 : s.toInt ≤ at'.toInt) => ?_) (fun (q26 : at'.toInt < s.toInt) => ?_)
    · refine mc_cx hmi 1 (F' := (241, [(0, .ref 542), (1, .ref 571), (2, .int f), (3, .int s), (4, .int k), (5, .int w), (6, .int hd), (7, .int cp), (8, .int at'), (9, .int ph)], [.int (Int32.ofInt 1)], h, n, 0, 0)) (by with_unfolding_all rfl) ?_
      refine mc_ret hmi rfl rfl rfl ⟨rfl, rfl, _, rfl, Or.inr (by decide), fun _ _ => ?_⟩
      rcases hinv with hinv | hinv
      · intro p q p0 p1 p2 p3 p4; exact hinv p q p0 (by omega) p2 p3 p4
      · exact absurd hinv.2 (by omega)
    · refine mc_cx hmi 4 (F' := (25, [(0, .ref 542), (1, .ref 571), (2, .int f), (3, .int s), (4, .int k), (5, .int w), (6, .int hd), (7, .int cp), (8, .int at'), (9, .int ph)], [.int (f + at'), .ref 571], h, n, 0, 0)) (by with_unfolding_all rfl) ?_
      have e27 : (f + at').toInt = 0 + at'.toInt := mc_add hf rfl (by omega) (by omega)
      refine mc_iald hmi H (k := 571) (i := (0 + at'.toInt)) (pc' := 26) rfl rfl rfl e27 (by omega) (by omega) rfl (fun y28 e29 r30 r31 => ?_)
      rw [e29] at r30 r31
      refine mc_cx hmi 3 (F' := (32, [(11, .int at'), (10, .int y28), (0, .ref 542), (1, .ref 571), (2, .int f), (3, .int s), (4, .int k), (5, .int w), (6, .int hd), (7, .int cp), (8, .int at'), (9, .int ph)], [], h, n, 0, 0)) (by with_unfolding_all rfl) ?_
      rw [Int.zero_add] at *
      have hy13 := h13 at'.toInt ha0 q26
      refine mc_lvs (lv' := [(0, .ref 542), (1, .ref 571), (2, .int f), (3, .int s), (4, .int k), (5, .int w), (6, .int hd), (7, .int cp), (8, .int at'), (9, .int ph), (10, .int y28), (11, .int at')]) (by simp) ?_
      refine ka_b hd0 H f s k w hf hs hk0 hk1 h13 hd cp at' ph y28 (fun e e1 e2 e3 e4 => ?_) (s.toInt - at'.toInt).toNat at' (by omega) (Or.inr ⟨rfl, q26, e29.symm⟩) ha0 (fun j h1 h2 => absurd h1 (by omega))
      have hyr : 0 ≤ y28.toInt ∧ y28.toInt ≤ 13 := by rw [e29]; exact hy13
      refine mc_cx hmi 6 (F' := (66, [(12, .int (e - at')), (0, .ref 542), (1, .ref 571), (2, .int f), (3, .int s), (4, .int k), (5, .int w), (6, .int hd), (7, .int cp), (8, .int at'), (9, .int ph), (10, .int y28), (11, .int e)], [.int cp, .int y28], h, n, 0, 0)) (by with_unfolding_all rfl) ?_
      have e32 : (e - at').toInt = e.toInt - at'.toInt := mc_sub rfl rfl (by omega) (by omega)
      refine mc_ci hmi (c := .lt) (tg := 71) (pc' := 69) rfl rfl rfl rfl rfl (fun (q33 : y28.toInt < cp.toInt) => ?_) (fun (q33 : cp.toInt ≤ y28.toInt) => ?_)
      · have hK : ka_K (ab_ri h 571) s.toInt at'.toInt := by
          rcases hinv with hinv | hinv
          · exact hinv
          · exact absurd hinv.1 (by omega)
        have plain : (s.toInt ≤ e.toInt ∨ ab_ri h 571 e.toInt ≤ y28.toInt) → mc_R l G mt_X11_keepsAll d (mc_P h n (ka_Q (ab_ri h 571) s.toInt w.toInt)) (147, [(12, .int (e - at')), (0, .ref 542), (1, .ref 571), (2, .int f), (3, .int s), (4, .int k), (5, .int w), (6, .int hd), (7, .int cp), (8, .int at'), (9, .int ph), (10, .int y28), (11, .int e)], [], h, n, 0, 0) := by
          intro hpl
          have go : ∀ u : Int32, mc_R l G mt_X11_keepsAll d (mc_P h n (ka_Q (ab_ri h 571) s.toInt w.toInt)) (225, [(12, .int (e - at')), (0, .ref 542), (1, .ref 571), (2, .int f), (3, .int s), (4, .int k), (5, .int w), (6, .int hd), (7, .int cp), (8, .int at'), (9, .int ph), (10, .int y28), (11, .int e), (13, .int u)], [], h, n, 0, 0) := by
            intro u
            refine mc_cx hmi 7 (F' := (14, [(8, .int e), (9, .int y28), (6, .int y28), (12, .int (e - at')), (0, .ref 542), (1, .ref 571), (2, .int f), (3, .int s), (4, .int k), (5, .int w), (7, .int cp), (10, .int y28), (11, .int e), (13, .int u)], [], h, n, 0, 0)) (by with_unfolding_all rfl) ?_
            refine mc_lvs (lv' := [(0, .ref 542), (1, .ref 571), (2, .int f), (3, .int s), (4, .int k), (5, .int w), (6, .int y28), (7, .int cp), (8, .int e), (9, .int y28)]) (by simp) ?_
            refine ih y28 cp e y28 (by omega) (by omega) e2 hyr.1 hyr.2 (Or.inl ?_)
            intro p q p0 p1 p2 p3 p4
            by_cases hp : p < at'.toInt
            · exact hK p q p0 hp p2 p3 p4
            · have hx := e3 p (by omega) p1
              have hx0 : y28.toInt = 0 := by omega
              rcases hpl with hpl | hpl
              · rw [e3 q (by omega) (by omega)]; exact hx0
              · rcases e4 with e4 | e4
                · rw [e3 q (by omega) (by omega)]; exact hx0
                · by_cases hes : e.toInt < s.toInt
                  · have := (h13 e.toInt (by omega) hes).1
                    exact absurd (show ab_ri h 571 e.toInt = y28.toInt by omega) e4
                  · rw [e3 q (by omega) (by omega)]; exact hx0
          have at184 : ∀ u : Int32, mc_R l G mt_X11_keepsAll d (mc_P h n (ka_Q (ab_ri h 571) s.toInt w.toInt)) (184, [(12, .int (e - at')), (0, .ref 542), (1, .ref 571), (2, .int f), (3, .int s), (4, .int k), (5, .int w), (6, .int hd), (7, .int cp), (8, .int at'), (9, .int ph), (10, .int y28), (11, .int e)], [.int u], h, n, 0, 0) := by
            intro u
            refine mc_cx hmi 2 (F' := (188, [(13, .int u), (12, .int (e - at')), (0, .ref 542), (1, .ref 571), (2, .int f), (3, .int s), (4, .int k), (5, .int w), (6, .int hd), (7, .int cp), (8, .int at'), (9, .int ph), (10, .int y28), (11, .int e)], [.int u], h, n, 0, 0)) (by with_unfolding_all rfl) ?_
            refine mc_cz hmi (c := .ne) (tg := 225) (pc' := 191) rfl rfl rfl rfl (fun (q34 : u.toInt ≠ 0) => ?_) (fun (q34 : u.toInt = 0) => ?_)
            · refine mc_lvs (lv' := [(12, .int (e - at')), (0, .ref 542), (1, .ref 571), (2, .int f), (3, .int s), (4, .int k), (5, .int w), (6, .int hd), (7, .int cp), (8, .int at'), (9, .int ph), (10, .int y28), (11, .int e), (13, .int u)]) (by simp) ?_
              exact go u
            · have no : mc_R l G mt_X11_keepsAll d (mc_P h n (ka_Q (ab_ri h 571) s.toInt w.toInt)) (223, [(13, .int u), (12, .int (e - at')), (0, .ref 542), (1, .ref 571), (2, .int f), (3, .int s), (4, .int k), (5, .int w), (6, .int hd), (7, .int cp), (8, .int at'), (9, .int ph), (10, .int y28), (11, .int e)], [], h, n, 0, 0) := by
                refine mc_cx hmi 1 (F' := (224, [(13, .int u), (12, .int (e - at')), (0, .ref 542), (1, .ref 571), (2, .int f), (3, .int s), (4, .int k), (5, .int w), (6, .int hd), (7, .int cp), (8, .int at'), (9, .int ph), (10, .int y28), (11, .int e)], [.int (Int32.ofInt 0)], h, n, 0, 0)) (by with_unfolding_all rfl) ?_
                exact mc_ret hmi rfl rfl rfl ⟨rfl, rfl, _, rfl, ka_0 (by decide)⟩
              refine mc_cx hmi 1 (F' := (193, [(13, .int u), (12, .int (e - at')), (0, .ref 542), (1, .ref 571), (2, .int f), (3, .int s), (4, .int k), (5, .int w), (6, .int hd), (7, .int cp), (8, .int at'), (9, .int ph), (10, .int y28), (11, .int e)], [.int w], h, n, 0, 0)) (by with_unfolding_all rfl) ?_
              refine mc_cz hmi (c := .ne) (tg := 223) (pc' := 196) rfl rfl rfl rfl (fun (q35 : w.toInt ≠ 0) => ?_) (fun (q35 : w.toInt = 0) => ?_)
              · exact no
              · refine mc_cx hmi 2 (F' := (199, [(13, .int u), (12, .int (e - at')), (0, .ref 542), (1, .ref 571), (2, .int f), (3, .int s), (4, .int k), (5, .int w), (6, .int hd), (7, .int cp), (8, .int at'), (9, .int ph), (10, .int y28), (11, .int e)], [.int s, .int e], h, n, 0, 0)) (by with_unfolding_all rfl) ?_
                refine mc_ci hmi (c := .ne) (tg := 223) (pc' := 202) rfl rfl rfl rfl rfl (fun (q36 : e.toInt ≠ s.toInt) => ?_) (fun (q36 : e.toInt = s.toInt) => ?_)
                · exact no
                · refine mc_cx hmi 6 (F' := (213, [(13, .int u), (12, .int (e - at')), (0, .ref 542), (1, .ref 571), (2, .int f), (3, .int s), (4, .int k), (5, .int w), (6, .int hd), (7, .int cp), (8, .int at'), (9, .int ph), (10, .int y28), (11, .int e)], [.int cp, .int hd, .int (e - at'), .int y28, .int k, .ref 542], h, n, 0, 0)) (by with_unfolding_all rfl) ?_
                  refine mc_callP hmi (en := (213, .invokevirtual 158, 3, (3, 170, 11, 0), [1346, 82, 1344])) rfl (q := (mt_X11_mayBegin, [.ref 542, .int k, .int y28, .int (e - at'), .int hd, .int cp], [])) (mc_inv H (as := [.int k, .int y28, .int (e - at'), .int hd, .int cp]) (rest := []) rfl (by with_unfolding_all rfl) rfl rfl rfl) ⟨rfl, rfl⟩ (pc' := 216) rfl (mc_mayBegin (by omega) H k y28 (e - at') hd cp hk0 hk1 hyr.1 hyr.2) (fun y37 e38 => ?_)
                  refine mc_cz hmi (c := .eq) (tg := 223) (pc' := 219) rfl rfl rfl rfl (fun (q39 : y37.toInt = 0) => ?_) (fun (q39 : y37.toInt ≠ 0) => ?_)
                  · exact no
                  · refine mc_cx hmi 2 (F' := (224, [(13, .int u), (12, .int (e - at')), (0, .ref 542), (1, .ref 571), (2, .int f), (3, .int s), (4, .int k), (5, .int w), (6, .int hd), (7, .int cp), (8, .int at'), (9, .int ph), (10, .int y28), (11, .int e)], [.int (Int32.ofInt 1)], h, n, 0, 0)) (by with_unfolding_all rfl) ?_
                    exact mc_ret hmi rfl rfl rfl ⟨rfl, rfl, _, rfl, Or.inr (by decide), fun _ q => absurd q35 q⟩
          have no183 : mc_R l G mt_X11_keepsAll d (mc_P h n (ka_Q (ab_ri h 571) s.toInt w.toInt)) (183, [(12, .int (e - at')), (0, .ref 542), (1, .ref 571), (2, .int f), (3, .int s), (4, .int k), (5, .int w), (6, .int hd), (7, .int cp), (8, .int at'), (9, .int ph), (10, .int y28), (11, .int e)], [], h, n, 0, 0) := by
            refine mc_cx hmi 1 (F' := (184, [(12, .int (e - at')), (0, .ref 542), (1, .ref 571), (2, .int f), (3, .int s), (4, .int k), (5, .int w), (6, .int hd), (7, .int cp), (8, .int at'), (9, .int ph), (10, .int y28), (11, .int e)], [.int (Int32.ofInt 0)], h, n, 0, 0)) (by with_unfolding_all rfl) ?_
            exact at184 _
          refine mc_cx hmi 2 (F' := (151, [(12, .int (e - at')), (0, .ref 542), (1, .ref 571), (2, .int f), (3, .int s), (4, .int k), (5, .int w), (6, .int hd), (7, .int cp), (8, .int at'), (9, .int ph), (10, .int y28), (11, .int e)], [.int hd, .int y28], h, n, 0, 0)) (by with_unfolding_all rfl) ?_
          refine mc_ci hmi (c := .gt) (tg := 183) (pc' := 154) rfl rfl rfl rfl rfl (fun (q40 : hd.toInt < y28.toInt) => ?_) (fun (q40 : y28.toInt ≤ hd.toInt) => ?_)
          · exact no183
          · refine mc_cx hmi 2 (F' := (158, [(12, .int (e - at')), (0, .ref 542), (1, .ref 571), (2, .int f), (3, .int s), (4, .int k), (5, .int w), (6, .int hd), (7, .int cp), (8, .int at'), (9, .int ph), (10, .int y28), (11, .int e)], [.int ph, .int y28], h, n, 0, 0)) (by with_unfolding_all rfl) ?_
            refine mc_ci hmi (c := .eq) (tg := 183) (pc' := 161) rfl rfl rfl rfl rfl (fun (q41 : y28.toInt = ph.toInt) => ?_) (fun (q41 : y28.toInt ≠ ph.toInt) => ?_)
            · exact no183
            · refine mc_cx hmi 2 (F' := (164, [(12, .int (e - at')), (0, .ref 542), (1, .ref 571), (2, .int f), (3, .int s), (4, .int k), (5, .int w), (6, .int hd), (7, .int cp), (8, .int at'), (9, .int ph), (10, .int y28), (11, .int e)], [.ref 542, .int (e - at')], h, n, 0, 0)) (by with_unfolding_all rfl) ?_
              refine mc_getr hmi H (k := 542) (c := 546) (pc' := 167) rfl rfl rfl rfl rfl ?_
              refine mc_cx hmi 5 (F' := (175, [(12, .int (e - at')), (0, .ref 542), (1, .ref 571), (2, .int f), (3, .int s), (4, .int k), (5, .int w), (6, .int hd), (7, .int cp), (8, .int at'), (9, .int ph), (10, .int y28), (11, .int e)], [.int (((Int8.ofInt 14).toInt32 * k) + y28), .ref 546, .int (e - at')], h, n, 0, 0)) (by with_unfolding_all rfl) ?_
              have e42 : ((Int8.ofInt 14).toInt32 * k).toInt = 14 * k.toInt := mc_mul (by decide) rfl (by omega) (by omega)
              have e43 : (((Int8.ofInt 14).toInt32 * k) + y28).toInt = (14 * k.toInt) + y28.toInt := mc_add e42 rfl (by omega) (by omega)
              refine mc_iald hmi H (k := 546) (i := ((14 * k.toInt) + y28.toInt)) (pc' := 176) rfl rfl rfl e43 (by omega) (by omega) rfl (fun y44 e45 r46 r47 => ?_)
              rw [e45] at r46 r47
              refine mc_ci hmi (c := .gt) (tg := 183) (pc' := 179) rfl rfl rfl e32 e45 (fun (q48 : ab_ri h 546 (((14 * k.toInt) + y28.toInt)) < (e.toInt - at'.toInt)) => ?_) (fun (q48 : (e.toInt - at'.toInt) ≤ ab_ri h 546 (((14 * k.toInt) + y28.toInt))) => ?_)
              · exact no183
              · refine mc_cx hmi 2 (F' := (184, [(12, .int (e - at')), (0, .ref 542), (1, .ref 571), (2, .int f), (3, .int s), (4, .int k), (5, .int w), (6, .int hd), (7, .int cp), (8, .int at'), (9, .int ph), (10, .int y28), (11, .int e)], [.int (Int32.ofInt 1)], h, n, 0, 0)) (by with_unfolding_all rfl) ?_
                exact at184 _
        refine mc_cx hmi 2 (F' := (74, [(12, .int (e - at')), (0, .ref 542), (1, .ref 571), (2, .int f), (3, .int s), (4, .int k), (5, .int w), (6, .int hd), (7, .int cp), (8, .int at'), (9, .int ph), (10, .int y28), (11, .int e)], [.int s, .int e], h, n, 0, 0)) (by with_unfolding_all rfl) ?_
        refine mc_ci hmi (c := .ge) (tg := 147) (pc' := 77) rfl rfl rfl rfl rfl (fun (q49 : s.toInt ≤ e.toInt) => ?_) (fun (q49 : e.toInt < s.toInt) => ?_)
        · exact plain (Or.inl q49)
        · refine mc_cx hmi 4 (F' := (82, [(12, .int (e - at')), (0, .ref 542), (1, .ref 571), (2, .int f), (3, .int s), (4, .int k), (5, .int w), (6, .int hd), (7, .int cp), (8, .int at'), (9, .int ph), (10, .int y28), (11, .int e)], [.int (f + e), .ref 571], h, n, 0, 0)) (by with_unfolding_all rfl) ?_
          have e50 : (f + e).toInt = 0 + e.toInt := mc_add hf rfl (by omega) (by omega)
          refine mc_iald hmi H (k := 571) (i := (0 + e.toInt)) (pc' := 83) rfl rfl rfl e50 (by omega) (by omega) rfl (fun y51 e52 r53 r54 => ?_)
          rw [e52] at r53 r54
          refine mc_cx hmi 1 (F' := (85, [(12, .int (e - at')), (0, .ref 542), (1, .ref 571), (2, .int f), (3, .int s), (4, .int k), (5, .int w), (6, .int hd), (7, .int cp), (8, .int at'), (9, .int ph), (10, .int y28), (11, .int e)], [.int y28, .int y51], h, n, 0, 0)) (by with_unfolding_all rfl) ?_
          rw [Int.zero_add] at *
          refine mc_ci hmi (c := .le) (tg := 147) (pc' := 88) rfl rfl rfl e52 rfl (fun (q55 : ab_ri h 571 e.toInt ≤ y28.toInt) => ?_) (fun (q55 : y28.toInt < ab_ri h 571 e.toInt) => ?_)
          · exact plain (Or.inr q55)
          · refine mc_cx hmi 4 (F' := (93, [(12, .int (e - at')), (0, .ref 542), (1, .ref 571), (2, .int f), (3, .int s), (4, .int k), (5, .int w), (6, .int hd), (7, .int cp), (8, .int at'), (9, .int ph), (10, .int y28), (11, .int e)], [.int (f + e), .ref 571], h, n, 0, 0)) (by with_unfolding_all rfl) ?_
            have e56 : (f + e).toInt = 0 + e.toInt := mc_add hf rfl (by omega) (by omega)
            refine mc_iald hmi H (k := 571) (i := (0 + e.toInt)) (pc' := 94) rfl rfl rfl e56 (by omega) (by omega) rfl (fun y57 e58 r59 r60 => ?_)
            rw [e58] at r59 r60
            refine mc_cx hmi 3 (F' := (100, [(13, .int y57), (12, .int (e - at')), (0, .ref 542), (1, .ref 571), (2, .int f), (3, .int s), (4, .int k), (5, .int w), (6, .int hd), (7, .int cp), (8, .int at'), (9, .int ph), (10, .int y28), (11, .int e)], [.int cp, .int y57], h, n, 0, 0)) (by with_unfolding_all rfl) ?_
            rw [Int.zero_add] at *
            have no : mc_R l G mt_X11_keepsAll d (mc_P h n (ka_Q (ab_ri h 571) s.toInt w.toInt)) (125, [(13, .int y57), (12, .int (e - at')), (0, .ref 542), (1, .ref 571), (2, .int f), (3, .int s), (4, .int k), (5, .int w), (6, .int hd), (7, .int cp), (8, .int at'), (9, .int ph), (10, .int y28), (11, .int e)], [], h, n, 0, 0) := by
              refine mc_cx hmi 1 (F' := (126, [(13, .int y57), (12, .int (e - at')), (0, .ref 542), (1, .ref 571), (2, .int f), (3, .int s), (4, .int k), (5, .int w), (6, .int hd), (7, .int cp), (8, .int at'), (9, .int ph), (10, .int y28), (11, .int e)], [.int (Int32.ofInt 0)], h, n, 0, 0)) (by with_unfolding_all rfl) ?_
              exact mc_ret hmi rfl rfl rfl ⟨rfl, rfl, _, rfl, ka_0 (by decide)⟩
            refine mc_ci hmi (c := .ge) (tg := 125) (pc' := 103) rfl rfl rfl e58 rfl (fun (q61 : cp.toInt ≤ ab_ri h 571 e.toInt) => ?_) (fun (q61 : ab_ri h 571 e.toInt < cp.toInt) => ?_)
            · exact no
            · refine mc_cx hmi 2 (F' := (107, [(13, .int y57), (12, .int (e - at')), (0, .ref 542), (1, .ref 571), (2, .int f), (3, .int s), (4, .int k), (5, .int w), (6, .int hd), (7, .int cp), (8, .int at'), (9, .int ph), (10, .int y28), (11, .int e)], [.int hd, .int y57], h, n, 0, 0)) (by with_unfolding_all rfl) ?_
              refine mc_ci hmi (c := .gt) (tg := 125) (pc' := 110) rfl rfl rfl e58 rfl (fun (q62 : hd.toInt < ab_ri h 571 e.toInt) => ?_) (fun (q62 : ab_ri h 571 e.toInt ≤ hd.toInt) => ?_)
              · exact no
              · refine mc_cx hmi 5 (F' := (119, [(13, .int y57), (12, .int (e - at')), (0, .ref 542), (1, .ref 571), (2, .int f), (3, .int s), (4, .int k), (5, .int w), (6, .int hd), (7, .int cp), (8, .int at'), (9, .int ph), (10, .int y28), (11, .int e)], [.int (e - at'), .int y57, .int y28, .int k, .ref 542], h, n, 0, 0)) (by with_unfolding_all rfl) ?_
                refine mc_callP hmi (en := (119, .invokevirtual 154, 3, (3, 169, 11, 0), [1342, 81, 1340])) rfl (q := (mt_X11_mayTake, [.ref 542, .int k, .int y28, .int y57, .int (e - at')], [])) (mc_inv H (as := [.int k, .int y28, .int y57, .int (e - at')]) (rest := []) rfl (by with_unfolding_all rfl) rfl rfl rfl) ⟨rfl, rfl⟩ (pc' := 122) rfl (mc_mayTake (by omega) H k y28 y57 (e - at') hk0 hk1 hyr.1 hyr.2) (fun y63 e64 => ?_)
                refine mc_cz hmi (c := .ne) (tg := 127) (pc' := 125) rfl rfl rfl rfl (fun (q65 : y63.toInt ≠ 0) => ?_) (fun (q65 : y63.toInt = 0) => ?_)
                · refine mc_cx hmi 12 (F' := (14, [(8, .int (e + (Int32.ofInt 1))), (9, .int (Int32.ofInt (-1))), (7, .int y28), (6, .int y28), (13, .int y57), (12, .int (e - at')), (0, .ref 542), (1, .ref 571), (2, .int f), (3, .int s), (4, .int k), (5, .int w), (10, .int y28), (11, .int e)], [], h, n, 0, 0)) (by with_unfolding_all rfl) ?_
                  have e66 : (e + (Int32.ofInt 1)).toInt = e.toInt + 1 := mc_add rfl (by decide) (by omega) (by omega)
                  refine mc_lvs (lv' := [(0, .ref 542), (1, .ref 571), (2, .int f), (3, .int s), (4, .int k), (5, .int w), (6, .int y28), (7, .int y28), (8, .int (e + (Int32.ofInt 1))), (9, .int (Int32.ofInt (-1)))]) (by simp) ?_
                  refine ih y28 y28 (e + (Int32.ofInt 1)) (Int32.ofInt (-1)) (by rw [e66]; omega) (by rw [e66]; omega) (by rw [e66]; omega) hyr.1 hyr.2 ?_
                  rw [e66]
                  by_cases hz : y28.toInt = 0 ∧ e.toInt + 1 < s.toInt
                  · exact Or.inr hz
                  · refine Or.inl ?_
                    intro p q p0 p1 p2 p3 p4
                    by_cases hp : p < at'.toInt
                    · exact hK p q p0 hp p2 p3 p4
                    · by_cases hpe : p = e.toInt
                      · rw [hpe] at p4
                        omega
                      · have hx := e3 p (by omega) (by omega)
                        have hx0 : y28.toInt = 0 := by omega
                        rw [e3 q (by omega) (by omega)]; exact hx0
                · exact no
      · refine mc_cx hmi 1 (F' := (70, [(12, .int (e - at')), (0, .ref 542), (1, .ref 571), (2, .int f), (3, .int s), (4, .int k), (5, .int w), (6, .int hd), (7, .int cp), (8, .int at'), (9, .int ph), (10, .int y28), (11, .int e)], [.int (Int32.ofInt 0)], h, n, 0, 0)) (by with_unfolding_all rfl) ?_
        exact mc_ret hmi rfl rfl rfl ⟨rfl, rfl, _, rfl, ka_0 (by decide)⟩
set_option maxRecDepth 100000 in
theorem mc_keepsAll {l : Launch} {G : ax_T} {d : Nat} {h : ax_H} {n : Nat} (hd0 : 3 ≤ d) (H : mc_HW h n) (f s k w : Int32) (hf : f.toInt = 0) (hs0 : 0 ≤ s.toInt) (hs : s.toInt ≤ 21) (hk0 : 0 ≤ k.toInt) (hk1 : k.toInt ≤ 5) (h13 : ∀ j : Int, 0 ≤ j → j < s.toInt → 0 ≤ ab_ri h 571 j ∧ ab_ri h 571 j ≤ 13) : mc_M l G d mt_X11_keepsAll [.ref 542, .ref 571, .int f, .int s, .int k, .int w] h n (mc_P h n (ka_Q (ab_ri h 571) s.toInt w.toInt)) := by
  obtain ⟨d, rfl⟩ : ∃ e, d = e + 1 := ⟨d - 1, by omega⟩
  have hmi : mt_X11_keepsAll ∈ mt_prog := List.mem_of_getElem? mi_X11_keepsAll
  refine mc_to hmi rfl ?_
  show mc_R _ _ _ _ _ (0, [(0, .ref 542), (1, .ref 571), (2, .int f), (3, .int s), (4, .int k), (5, .int w)], [], h, n, 0, 0)
  refine mc_cx hmi 8 (F' := (14, [(9, .int (Int32.ofInt (-1))), (8, .int (Int32.ofInt 0)), (7, .int (Int8.ofInt 14).toInt32), (6, .int (Int8.ofInt 13).toInt32), (0, .ref 542), (1, .ref 571), (2, .int f), (3, .int s), (4, .int k), (5, .int w)], [], h, n, 0, 0)) (by with_unfolding_all rfl) ?_
  refine mc_lvs (lv' := [(0, .ref 542), (1, .ref 571), (2, .int f), (3, .int s), (4, .int k), (5, .int w), (6, .int (Int8.ofInt 13).toInt32), (7, .int (Int8.ofInt 14).toInt32), (8, .int (Int32.ofInt 0)), (9, .int (Int32.ofInt (-1)))]) (by simp) ?_
  exact ka_a (by omega) H f s k w hf hs hk0 hk1 h13 s.toInt.toNat (Int8.ofInt 13).toInt32 (Int8.ofInt 14).toInt32 (Int32.ofInt 0) (Int32.ofInt (-1)) (by show (s.toInt - 0).toNat ≤ _; omega) (by decide) hs0 (by decide) (by decide) (Or.inl (fun p q p0 p1 => absurd p1 (by show ¬ p < 0; omega)))
end
section
/-! ===== by hand: how many fillings there are ===== -/
def Pf (o : Nat → Bool) : Nat → Nat
  | 0 => 1
  | j + 1 => Pf o j * (if o j then 14 else 1)
def Wc (o : Nat → Bool) (s : Nat) : Nat → Nat
  | 0 => 1
  | c + 1 => (if o (s - (c + 1)) then 14 else 1) * Wc o s c
def Hn (o : Nat → Bool) (dg : Nat → Nat) : Nat → Nat
  | 0 => 0
  | j + 1 => if o j then Hn o dg j * 14 + dg j else Hn o dg j + (if dg j = 14 then 1 else 0)
theorem Hn_s (o : Nat → Bool) (dg : Nat → Nat) (j : Nat) : Hn o dg (j + 1) = if o j then Hn o dg j * 14 + dg j else Hn o dg j + (if dg j = 14 then 1 else 0) := rfl
theorem Wc_s {o : Nat → Bool} {s j : Nat} (h : j < s) : Wc o s (s - j) = (if o j then 14 else 1) * Wc o s (s - (j + 1)) := by
  obtain ⟨c, hc⟩ : ∃ c, s - j = c + 1 := ⟨s - j - 1, by omega⟩
  rw [hc, show s - (j + 1) = c by omega]
  show (if o (s - (c + 1)) then 14 else 1) * _ = _
  rw [show s - (c + 1) = j by omega]
theorem Wc_pos {o : Nat → Bool} {s : Nat} : ∀ c : Nat, 1 ≤ Wc o s c
  | 0 => Nat.le_refl 1
  | c + 1 => by
    have := Wc_pos (o := o) (s := s) c
    show 1 ≤ (if _ then 14 else 1) * Wc o s c
    split <;> omega
theorem Pf_Wc {o : Nat → Bool} {s : Nat} : ∀ c : Nat, c ≤ s → Pf o (s - c) * Wc o s c = Pf o s
  | 0, _ => by show Pf o s * 1 = Pf o s; omega
  | c + 1, h => by
    have ih := Pf_Wc (o := o) (s := s) c (by omega)
    rw [show s - c = s - (c + 1) + 1 by omega] at ih
    rw [← ih]
    show Pf o (s - (c + 1)) * ((if o (s - (c + 1)) then 14 else 1) * Wc o s c) = Pf o (s - (c + 1)) * (if o (s - (c + 1)) then 14 else 1) * Wc o s c
    rw [Nat.mul_assoc]
theorem Wc_all {o : Nat → Bool} {s : Nat} : Wc o s s = Pf o s := by
  have := Pf_Wc (o := o) (s := s) s (Nat.le_refl s)
  rw [Nat.sub_self] at this
  rw [← this]
  show _ = 1 * _
  rw [Nat.one_mul]
theorem Hn_of {o : Nat → Bool} {dg dg' : Nat → Nat} : ∀ j : Nat, (∀ i, i < j → dg' i = dg i) → Hn o dg' j = Hn o dg j
  | 0, _ => rfl
  | j + 1, h => by
    rw [Hn_s, Hn_s, Hn_of j (fun i hi => h i (by omega)), h j (by omega)]
/-- up: lower bounds -/
theorem Hn_ge {o : Nat → Bool} {dg : Nat → Nat} {s : Nat} : ∀ (c j : Nat), j + c = s → Hn o dg j * Wc o s (s - j) ≤ Hn o dg s
  | 0, j, h => by
    have : j = s := by omega
    subst this
    rw [Nat.sub_self]
    show Hn o dg j * 1 ≤ _
    omega
  | c + 1, j, h => by
    refine Nat.le_trans ?_ (Hn_ge c (j + 1) (by omega))
    rw [Wc_s (by omega), Hn_s]
    cases ho : o j with
    | true =>
      rw [if_pos rfl, if_pos rfl, ← Nat.mul_assoc, Nat.add_mul]
      exact Nat.le_add_right _ _
    | false =>
      rw [if_neg (by decide), if_neg (by decide), Nat.one_mul, Nat.add_mul]
      exact Nat.le_add_right _ _
/-- upper bounds, where no digit is used up -/
theorem Hn_le {o : Nat → Bool} {dg : Nat → Nat} {s : Nat} : ∀ (c j : Nat), j + c = s → (∀ i, j ≤ i → i < s → dg i ≤ 13) → Hn o dg s + 1 ≤ (Hn o dg j + 1) * Wc o s (s - j)
  | 0, j, h, _ => by
    have : j = s := by omega
    subst this
    rw [Nat.sub_self]
    show _ ≤ (Hn o dg j + 1) * 1
    omega
  | c + 1, j, h, hd => by
    refine Nat.le_trans (Hn_le c (j + 1) (by omega) (fun i h1 h2 => hd i (by omega) h2)) ?_
    rw [Wc_s (show j < s by omega)]
    have := hd j (Nat.le_refl j) (by omega)
    rw [Hn_s]
    cases ho : o j with
    | true =>
      rw [if_pos rfl, if_pos rfl, ← Nat.mul_assoc]
      exact Nat.mul_le_mul_right _ (by omega)
    | false =>
      rw [if_neg (show ¬ (false = true) by decide), if_neg (show ¬ (dg j = 14) by omega), if_neg (show ¬ (false = true) by decide), Nat.one_mul]
      exact Nat.le_refl _
theorem Hn_cl {o : Nat → Bool} {dg : Nat → Nat} {j : Nat} : ∀ c : Nat, (∀ i, j ≤ i → i < j + c → o i = false ∧ dg i ≤ 13) → Hn o dg (j + c) = Hn o dg j
  | 0, _ => rfl
  | c + 1, h => by
    have h1 := h (j + c) (by omega) (by omega)
    show Hn o dg (j + c + 1) = _
    rw [Hn_s, h1.1, if_neg (by decide), if_neg (by omega)]
    show Hn o dg (j + c) + 0 = _
    rw [Hn_cl c (fun i a b => h i a (by omega))]
    rfl
/-- the first open place -/
theorem op1 {o : Nat → Bool} {s : Nat} : ∀ (c j : Nat), j + c = s → 1 < Wc o s (s - j) → ∃ p, j ≤ p ∧ p < s ∧ o p = true ∧ (∀ i, j ≤ i → i < p → o i = false) ∧ Wc o s (s - p) = Wc o s (s - j)
  | 0, j, h, hw => by
    have : j = s := by omega
    subst this
    rw [Nat.sub_self] at hw
    exact absurd hw (by show ¬ 1 < 1; omega)
  | c + 1, j, h, hw => by
    cases ho : o j with
    | true => exact ⟨j, Nat.le_refl j, by omega, ho, fun i a b => absurd a (by omega), rfl⟩
    | false =>
      have e := Wc_s (o := o) (show j < s by omega)
      rw [ho] at e
      have e' : Wc o s (s - j) = Wc o s (s - (j + 1)) := by rw [e]; show 1 * _ = _; rw [Nat.one_mul]
      obtain ⟨p, p1, p2, p3, p4, p5⟩ := op1 (o := o) (s := s) c (j + 1) (by omega) (by rw [← e']; exact hw)
      refine ⟨p, by omega, p2, p3, fun i a b => ?_, by rw [p5, e']⟩
      by_cases q : i = j
      · rw [q]; exact ho
      · exact p4 i (by omega) b
/-- where four places are open: few are what may be, or the first is not the least -/
theorem four {o : Nat → Bool} {dg : Nat → Nat} {s : Nat} (hT : Pf o s = 38416) (hd : ∀ i, i < s → dg i ≤ 13) (hK : ∀ p q : Nat, p < q → q + 1 < s → dg p = 0 → dg q = 0) : Hn o dg s < 196 ∨ 2744 ≤ Hn o dg s := by
  have w0 : Wc o s (s - 0) = 38416 := by rw [Nat.sub_zero, Wc_all, hT]
  obtain ⟨p, p1, p2, p3, p4, p5⟩ := op1 (o := o) (s := s) s 0 (by omega) (by rw [w0]; decide)
  have h0 : Hn o dg p = 0 := by
    have := Hn_cl (o := o) (dg := dg) (j := 0) p (fun i a b => ⟨p4 i a (by omega), hd i (by omega)⟩)
    rw [Nat.zero_add] at this
    rw [this]; rfl
  have w1 : Wc o s (s - (p + 1)) = 2744 := by
    have := Wc_s (o := o) p2
    rw [p3, p5, w0, if_pos rfl] at this
    omega
  have h1 : Hn o dg (p + 1) = dg p := by
    rw [Hn_s]
    rw [p3, if_pos rfl, h0]
    omega
  by_cases hp : dg p = 0
  · obtain ⟨q, q1, q2, q3, q4, q5⟩ := op1 (o := o) (s := s) (s - (p + 1)) (p + 1) (by omega) (by rw [w1]; decide)
    have h2 : Hn o dg q = 0 := by
      have := Hn_cl (o := o) (dg := dg) (j := p + 1) (q - (p + 1)) (fun i a b => ⟨q4 i a (by omega), hd i (by omega)⟩)
      rw [show p + 1 + (q - (p + 1)) = q by omega] at this
      rw [this, h1, hp]
    have w2 : Wc o s (s - (q + 1)) = 196 := by
      have := Wc_s (o := o) q2
      rw [q3, q5, w1, if_pos rfl] at this
      omega
    have hq1 : q + 1 < s := by
      by_cases e : q + 1 = s
      · rw [e, Nat.sub_self] at w2
        exact absurd w2 (by show ¬ 1 = 196; omega)
      · omega
    have hq := hK p q (by omega) hq1 hp
    have h3 : Hn o dg (q + 1) = 0 := by
      rw [Hn_s]
      rw [q3, if_pos rfl, h2, hq]
    have := Hn_le (o := o) (dg := dg) (s := s) (s - (q + 1)) (q + 1) (by omega) (fun i _ b => hd i b)
    rw [h3, w2] at this
    left; omega
  · right
    have := Hn_ge (o := o) (dg := dg) (s := s) (s - (p + 1)) (p + 1) (by omega)
    rw [h1, w1] at this
    omega
/-- how many may have been said, by how far the filling is -/
def psi (T N : Nat) : Nat := if T = 38416 then (if N ≤ 196 then N else if N ≤ 2744 then 196 else N - 2548) else N
theorem psi_mono {T N M : Nat} (h : N ≤ M) : psi T N ≤ psi T M := by
  unfold psi
  split
  · split <;> split <;> (try split) <;> (try split) <;> omega
  · exact h
theorem psi_s {T N : Nat} (h : T = 38416 → N < 196 ∨ 2744 ≤ N) : psi T N + 1 ≤ psi T (N + 1) := by
  unfold psi
  split
  · rename_i e
    have := h e
    split <;> split <;> (try split) <;> (try split) <;> omega
  · omega
/-! counting what is not 0 -/
def nz (f : Int → Int) : Nat → Nat
  | 0 => 0
  | i + 1 => nz f i + (if f (i : Int) = 0 then 0 else 1)
theorem nz_free {f : Int → Int} : ∀ m : Nat, nz f m < m → ∃ z : Nat, z < m ∧ f (z : Int) = 0
  | 0, h => absurd h (Nat.not_lt_zero _)
  | m + 1, h => by
    by_cases e : f (m : Int) = 0
    · exact ⟨m, by omega, e⟩
    · have h' : nz f m + (if f (m : Int) = 0 then 0 else 1) < m + 1 := h
      rw [if_neg e] at h'
      obtain ⟨z, z1, z2⟩ := nz_free (f := f) m (by omega)
      exact ⟨z, by omega, z2⟩
theorem nz_of {f g : Int → Int} : ∀ m : Nat, (∀ i : Nat, i < m → g (i : Int) = f (i : Int)) → nz g m = nz f m
  | 0, _ => rfl
  | m + 1, h => by
    unfold nz
    rw [nz_of m (fun i hi => h i (by omega)), h m (by omega)]
theorem nz_set {f g : Int → Int} {a : Int} (h : ∀ i : Int, i ≠ a → g i = f i) : ∀ m : Nat, nz g m ≤ nz f m + (if 0 ≤ a ∧ a < (m : Int) then 1 else 0)
  | 0 => by show 0 ≤ _; omega
  | m + 1 => by
    have ih := nz_set h m
    show nz g m + _ ≤ nz f m + _ + _
    by_cases e : (m : Int) = a
    · rw [if_neg (show ¬ (0 ≤ a ∧ a < (m : Int)) by omega)] at ih
      rw [if_pos (show 0 ≤ a ∧ a < ((m + 1 : Nat) : Int) by omega)]
      split <;> split <;> omega
    · rw [h _ e]
      by_cases q : 0 ≤ a ∧ a < (m : Int)
      · rw [if_pos q] at ih
        rw [if_pos (show 0 ≤ a ∧ a < ((m + 1 : Nat) : Int) by omega)]
        omega
      · rw [if_neg q] at ih
        rw [if_neg (show ¬ (0 ≤ a ∧ a < ((m + 1 : Nat) : Int)) by omega)]
        omega
theorem mc_us3 (x : Int32) : 0 ≤ ((x.toUInt32 >>> ((Int32.ofInt 3).toUInt32 &&& Int32.toUInt32 31)).toInt32).toInt := by
  rw [show (Int32.ofInt 3).toUInt32 &&& Int32.toUInt32 31 = (3 : UInt32) from by decide]
  show 0 ≤ ((x.toUInt32 >>> 3).toBitVec).toInt
  have h1 : (x.toUInt32 >>> 3).toBitVec.toNat = x.toUInt32.toNat / 8 := by
    show (x.toUInt32 >>> 3).toNat = _
    rw [UInt32.toNat_shiftRight]
    show x.toUInt32.toNat >>> 3 = _
    rw [Nat.shiftRight_eq_div_pow]
  have h2 := x.toUInt32.toNat_lt
  rw [BitVec.toInt_eq_toNat_of_lt (by rw [h1]; omega)]
  omega
end
section
/-! ===== by hand: fillAll, in the reference (ways printed by wip/hand/h_say.py) ===== -/
/-- what say does -/
def SY (h h' : ax_H) (n : Nat) : Prop := mc_HW h' n ∧ ab_ri h 542 37 ≤ ab_ri h' 542 37 ∧ ab_ri h' 542 37 ≤ ab_ri h 542 37 + 1 ∧ (nz (ab_ri h' 569) 131072 : Int) ≤ nz (ab_ri h 569) 131072 + (ab_ri h' 542 37 - ab_ri h 542 37) ∧
  ∀ (k : Nat) (i : Int), k ≠ 568 → k ≠ 569 → (k = 542 → i ≠ 37) → ab_rd h' k i = ab_rd h k i
set_option maxRecDepth 100000 in
theorem sy_loop {l : Launch} {G : ax_T} {d : Nat} {h : ax_H} {n : Nat} (H : mc_HW h n) (w : Int32) {z : Int} (hz0 : 0 ≤ z) (hz1 : z < 131072) (hz : ab_ri h 569 z = 0) (kk : ∀ a : Int32, 0 ≤ a.toInt → a.toInt < 131072 → ab_ri h 569 a.toInt = 0 → mc_R l G mt_X11_say d (fun r' h' n' => n' = n ∧ r' = none ∧ SY h h' n) (47, [(0, .ref 542), (1, .int w), (2, .int a)], [], h, n, 0, 0)) : ∀ (c : Nat) (a : Int32), 0 ≤ a.toInt → a.toInt < 131072 → (c : Int) = (if a.toInt ≤ z then z - a.toInt else z + 131072 - a.toInt) → mc_R l G mt_X11_say d (fun r' h' n' => n' = n ∧ r' = none ∧ SY h h' n) (10, [(0, .ref 542), (1, .int w), (2, .int a)], [], h, n, 0, 0) := by
  have hmi : mt_X11_say ∈ mt_prog := List.mem_of_getElem? mi_X11_say
  intro c
  induction c with
  | zero =>
    intro a ha0 ha1 hc
    refine mc_cx hmi 1 (F' := (11, [(0, .ref 542), (1, .int w), (2, .int a)], [.ref 542], h, n, 0, 0)) (by with_unfolding_all rfl) ?_
    refine mc_getr hmi H (k := 542) (c := 569) (pc' := 14) rfl rfl rfl rfl rfl ?_
    refine mc_cx hmi 1 (F' := (15, [(0, .ref 542), (1, .int w), (2, .int a)], [.int a, .ref 569], h, n, 0, 0)) (by with_unfolding_all rfl) ?_
    refine mc_iald hmi H (k := 569) (i := a.toInt) (pc' := 16) rfl rfl rfl rfl (by omega) (by omega) rfl (fun y1 e2 r3 r4 => ?_)
    rw [e2] at r3 r4
    refine mc_cz hmi (c := .eq) (tg := 47) (pc' := 19) rfl rfl rfl e2 (fun (q5 : ab_ri h 569 (a.toInt) = 0) => ?_) (fun (q5 : ab_ri h 569 (a.toInt) ≠ 0) => ?_)
    · exact kk a ha0 ha1 q5
    · have e : a.toInt = z := by split at hc <;> omega
      rw [e] at q5
      exact absurd hz q5
  | succ c ih =>
    intro a ha0 ha1 hc
    refine mc_cx hmi 1 (F' := (11, [(0, .ref 542), (1, .int w), (2, .int a)], [.ref 542], h, n, 0, 0)) (by with_unfolding_all rfl) ?_
    refine mc_getr hmi H (k := 542) (c := 569) (pc' := 14) rfl rfl rfl rfl rfl ?_
    refine mc_cx hmi 1 (F' := (15, [(0, .ref 542), (1, .int w), (2, .int a)], [.int a, .ref 569], h, n, 0, 0)) (by with_unfolding_all rfl) ?_
    refine mc_iald hmi H (k := 569) (i := a.toInt) (pc' := 16) rfl rfl rfl rfl (by omega) (by omega) rfl (fun y6 e7 r8 r9 => ?_)
    rw [e7] at r8 r9
    refine mc_cz hmi (c := .eq) (tg := 47) (pc' := 19) rfl rfl rfl e7 (fun (q10 : ab_ri h 569 (a.toInt) = 0) => ?_) (fun (q10 : ab_ri h 569 (a.toInt) ≠ 0) => ?_)
    · exact kk a ha0 ha1 q10
    · have ne : a.toInt ≠ z := fun e => by rw [e] at q10; exact q10 hz
      refine mc_cx hmi 1 (F' := (20, [(0, .ref 542), (1, .int w), (2, .int a)], [.ref 542], h, n, 0, 0)) (by with_unfolding_all rfl) ?_
      refine mc_getr hmi H (k := 542) (c := 568) (pc' := 23) rfl rfl rfl rfl rfl ?_
      refine mc_cx hmi 1 (F' := (24, [(0, .ref 542), (1, .int w), (2, .int a)], [.ref 542, .ref 568], h, n, 0, 0)) (by with_unfolding_all rfl) ?_
      refine mc_getr hmi H (k := 542) (c := 569) (pc' := 27) rfl rfl rfl rfl rfl ?_
      refine mc_cx hmi 1 (F' := (28, [(0, .ref 542), (1, .int w), (2, .int a)], [.int a, .ref 569, .ref 568], h, n, 0, 0)) (by with_unfolding_all rfl) ?_
      refine mc_iald hmi H (k := 569) (i := a.toInt) (pc' := 29) rfl rfl rfl rfl (by omega) (by omega) rfl (fun y11 e12 r13 r14 => ?_)
      rw [e12] at r13 r14
      refine mc_cx hmi 2 (F' := (31, [(0, .ref 542), (1, .int w), (2, .int a)], [.int (y11 - (Int32.ofInt 1)), .ref 568], h, n, 0, 0)) (by with_unfolding_all rfl) ?_
      have e15 : (y11 - (Int32.ofInt 1)).toInt = ab_ri h 569 (a.toInt) - 1 := mc_sub e12 (by decide) (by omega) (by omega)
      refine mc_iald hmi H (k := 568) (i := (ab_ri h 569 (a.toInt) - 1)) (pc' := 32) rfl rfl rfl e15 (by omega) (by omega) rfl (fun y16 e17 r18 r19 => ?_)
      rw [e17] at r18 r19
      refine mc_cx hmi 1 (F' := (33, [(0, .ref 542), (1, .int w), (2, .int a)], [.int w, .int y16], h, n, 0, 0)) (by with_unfolding_all rfl) ?_
      refine mc_ci hmi (c := .ne) (tg := 37) (pc' := 36) rfl rfl rfl e17 rfl (fun (q20 : ab_ri h 568 ((ab_ri h 569 (a.toInt) - 1)) ≠ w.toInt) => ?_) (fun (q20 : ab_ri h 568 ((ab_ri h 569 (a.toInt) - 1)) = w.toInt) => ?_)
      · refine mc_cx hmi 4 (F' := (42, [(0, .ref 542), (1, .int w), (2, .int a)], [.int (Int32.ofInt 131072), .int (a + (Int32.ofInt 1))], h, n, 0, 0)) (by with_unfolding_all rfl) ?_
        have e21 : (a + (Int32.ofInt 1)).toInt = a.toInt + 1 := mc_add rfl (by decide) (by omega) (by omega)
        have e22 : ((a + (Int32.ofInt 1)) - (a + (Int32.ofInt 1)) / (Int32.ofInt 131072) * (Int32.ofInt 131072)).toInt = (a.toInt + 1) % 131072 := mc_rem e21 (by decide) (by omega) (by omega)
        refine mc_irem hmi (pc' := 43) rfl (show ((Int32.ofInt 131072)).toInt ≠ 0 from by decide) rfl ?_
        refine mc_cx hmi 2 (F' := (10, [(2, .int ((a + (Int32.ofInt 1)) - (a + (Int32.ofInt 1)) / (Int32.ofInt 131072) * (Int32.ofInt 131072))), (0, .ref 542), (1, .int w)], [], h, n, 0, 0)) (by with_unfolding_all rfl) ?_
        refine mc_lvs (lv' := [(0, .ref 542), (1, .int w), (2, .int ((a + (Int32.ofInt 1)) - (a + (Int32.ofInt 1)) / (Int32.ofInt 131072) * (Int32.ofInt 131072)))]) (by simp) ?_
        refine ih ((a + (Int32.ofInt 1)) - (a + (Int32.ofInt 1)) / (Int32.ofInt 131072) * (Int32.ofInt 131072)) (by rw [e22]; omega) (by rw [e22]; omega) ?_
        rw [e22]
        split at hc <;> split <;> omega
      · refine mc_ret hmi rfl rfl rfl ⟨rfl, rfl, H, Int.le_refl _, by omega, by omega, fun _ _ _ _ _ => rfl⟩
set_option maxRecDepth 100000 in
theorem mc_say {l : Launch} {G : ax_T} {d : Nat} {h : ax_H} {n : Nat} (hd : 1 ≤ d) (H : mc_HW h n) (w : Int32) (hs0 : 0 ≤ ab_ri h 542 37) (hs1 : ab_ri h 542 37 ≤ 39999) (hnz : (nz (ab_ri h 569) 131072 : Int) ≤ ab_ri h 542 37) : mc_M l G d mt_X11_say [.ref 542, .int w] h n (fun r' h' n' => n' = n ∧ r' = none ∧ SY h h' n) := by
  obtain ⟨d, rfl⟩ : ∃ e, d = e + 1 := ⟨d - 1, by omega⟩
  have hmi : mt_X11_say ∈ mt_prog := List.mem_of_getElem? mi_X11_say
  obtain ⟨z, hz1, hz⟩ := nz_free (f := ab_ri h 569) 131072 (by omega)
  refine mc_to hmi rfl ?_
  show mc_R _ _ _ _ _ (0, [(0, .ref 542), (1, .int w)], [], h, n, 0, 0)
  refine mc_cx hmi 6 (F' := (8, [(0, .ref 542), (1, .int w)], [.int (Int32.ofInt 131072), .int (((w * (Int32.ofInt 40503))).toUInt32 >>> (((Int32.ofInt 3)).toUInt32 &&& Int32.toUInt32 31)).toInt32], h, n, 0, 0)) (by with_unfolding_all rfl) ?_
  have hu : 0 ≤ ((((w * (Int32.ofInt 40503))).toUInt32 >>> (((Int32.ofInt 3)).toUInt32 &&& Int32.toUInt32 31)).toInt32).toInt := mc_us3 _
  have e23 : ((((w * (Int32.ofInt 40503))).toUInt32 >>> (((Int32.ofInt 3)).toUInt32 &&& Int32.toUInt32 31)).toInt32 - (((w * (Int32.ofInt 40503))).toUInt32 >>> (((Int32.ofInt 3)).toUInt32 &&& Int32.toUInt32 31)).toInt32 / (Int32.ofInt 131072) * (Int32.ofInt 131072)).toInt = ((((w * (Int32.ofInt 40503))).toUInt32 >>> (((Int32.ofInt 3)).toUInt32 &&& Int32.toUInt32 31)).toInt32).toInt % 131072 := mc_rem rfl (by decide) (by omega) (by omega)
  refine mc_irem hmi (pc' := 9) rfl (show ((Int32.ofInt 131072)).toInt ≠ 0 from by decide) rfl ?_
  refine mc_cx hmi 1 (F' := (10, [(2, .int ((((w * (Int32.ofInt 40503))).toUInt32 >>> (((Int32.ofInt 3)).toUInt32 &&& Int32.toUInt32 31)).toInt32 - (((w * (Int32.ofInt 40503))).toUInt32 >>> (((Int32.ofInt 3)).toUInt32 &&& Int32.toUInt32 31)).toInt32 / (Int32.ofInt 131072) * (Int32.ofInt 131072))), (0, .ref 542), (1, .int w)], [], h, n, 0, 0)) (by with_unfolding_all rfl) ?_
  refine mc_lvs (lv' := [(0, .ref 542), (1, .int w), (2, .int ((((w * (Int32.ofInt 40503))).toUInt32 >>> (((Int32.ofInt 3)).toUInt32 &&& Int32.toUInt32 31)).toInt32 - (((w * (Int32.ofInt 40503))).toUInt32 >>> (((Int32.ofInt 3)).toUInt32 &&& Int32.toUInt32 31)).toInt32 / (Int32.ofInt 131072) * (Int32.ofInt 131072)))]) (by simp) ?_
  refine sy_loop H w (z := (z : Int)) (by omega) (by omega) hz (fun a ha0 ha1 hz' => ?_) (if (((((w * (Int32.ofInt 40503))).toUInt32 >>> (((Int32.ofInt 3)).toUInt32 &&& Int32.toUInt32 31)).toInt32 - (((w * (Int32.ofInt 40503))).toUInt32 >>> (((Int32.ofInt 3)).toUInt32 &&& Int32.toUInt32 31)).toInt32 / (Int32.ofInt 131072) * (Int32.ofInt 131072))).toInt ≤ (z : Int) then (z : Int) - (((((w * (Int32.ofInt 40503))).toUInt32 >>> (((Int32.ofInt 3)).toUInt32 &&& Int32.toUInt32 31)).toInt32 - (((w * (Int32.ofInt 40503))).toUInt32 >>> (((Int32.ofInt 3)).toUInt32 &&& Int32.toUInt32 31)).toInt32 / (Int32.ofInt 131072) * (Int32.ofInt 131072))).toInt else (z : Int) + 131072 - (((((w * (Int32.ofInt 40503))).toUInt32 >>> (((Int32.ofInt 3)).toUInt32 &&& Int32.toUInt32 31)).toInt32 - (((w * (Int32.ofInt 40503))).toUInt32 >>> (((Int32.ofInt 3)).toUInt32 &&& Int32.toUInt32 31)).toInt32 / (Int32.ofInt 131072) * (Int32.ofInt 131072))).toInt).toNat ((((w * (Int32.ofInt 40503))).toUInt32 >>> (((Int32.ofInt 3)).toUInt32 &&& Int32.toUInt32 31)).toInt32 - (((w * (Int32.ofInt 40503))).toUInt32 >>> (((Int32.ofInt 3)).toUInt32 &&& Int32.toUInt32 31)).toInt32 / (Int32.ofInt 131072) * (Int32.ofInt 131072)) (by rw [e23]; omega) (by rw [e23]; omega) (by rw [e23]; split <;> omega)
  refine mc_cx hmi 1 (F' := (48, [(0, .ref 542), (1, .int w), (2, .int a)], [.ref 542], h, n, 0, 0)) (by with_unfolding_all rfl) ?_
  refine mc_getr hmi H (k := 542) (c := 568) (pc' := 51) rfl rfl rfl rfl rfl ?_
  refine mc_cx hmi 1 (F' := (52, [(0, .ref 542), (1, .int w), (2, .int a)], [.ref 542, .ref 568], h, n, 0, 0)) (by with_unfolding_all rfl) ?_
  refine mc_geti hmi H (k := 542) (j := 37) (pc' := 55) rfl rfl rfl rfl (fun y24 (e25 : y24.toInt = ab_ri h 542 37) r26 r27 => ?_)
  rw [e25] at r26 r27
  refine mc_cx hmi 1 (F' := (56, [(0, .ref 542), (1, .int w), (2, .int a)], [.int w, .int y24, .ref 568], h, n, 0, 0)) (by with_unfolding_all rfl) ?_
  have b28 := Int32.le_toInt (w)
  have b29 := Int32.toInt_lt (w)
  refine mc_iast hmi H (k := 568) (i := ab_ri h 542 37) (pc' := 57) rfl rfl rfl e25 (by omega) (by omega) (by rw [show (w).toInt = w.toInt from rfl]; omega) (by rw [show (w).toInt = w.toInt from rfl]; omega) rfl (fun h30 H31 w32 => ?_)
  have g1 := mc_ri w32
  have c1 : ab_ri h30 542 37 = ab_ri h 542 37 := by rw [g1, if_neg (fun q => absurd q.1 (by decide))]
  refine mc_cx hmi 2 (F' := (59, [(0, .ref 542), (1, .int w), (2, .int a)], [.ref 542, .ref 542], h30, n, 0, 0)) (by with_unfolding_all rfl) ?_
  refine mc_geti hmi H31 (k := 542) (j := 37) (pc' := 62) rfl rfl rfl rfl (fun y33 (e34 : y33.toInt = ab_ri h30 542 37) r35 r36 => ?_)
  rw [e34] at r35 r36
  refine mc_cx hmi 2 (F' := (64, [(0, .ref 542), (1, .int w), (2, .int a)], [.int (y33 + (Int32.ofInt 1)), .ref 542], h30, n, 0, 0)) (by with_unfolding_all rfl) ?_
  have e37 : (y33 + (Int32.ofInt 1)).toInt = ab_ri h30 542 37 + 1 := mc_add e34 (by decide) (by omega) (by omega)
  refine mc_puti hmi H31 (k := 542) (j := 37) (pc' := 67) rfl rfl rfl rfl (by rw [e37]; omega) (by rw [e37]; omega) rfl (fun h38 H39 w40 => ?_)
  have g2 := mc_ri w40
  have c2 : ab_ri h38 542 37 = ab_ri h30 542 37 + 1 := by rw [g2, if_pos ⟨rfl, rfl⟩]; omega
  refine mc_cx hmi 1 (F' := (68, [(0, .ref 542), (1, .int w), (2, .int a)], [.ref 542], h38, n, 0, 0)) (by with_unfolding_all rfl) ?_
  refine mc_getr hmi H39 (k := 542) (c := 569) (pc' := 71) rfl rfl rfl rfl rfl ?_
  refine mc_cx hmi 2 (F' := (73, [(0, .ref 542), (1, .int w), (2, .int a)], [.ref 542, .int a, .ref 569], h38, n, 0, 0)) (by with_unfolding_all rfl) ?_
  refine mc_geti hmi H39 (k := 542) (j := 37) (pc' := 76) rfl rfl rfl rfl (fun y41 (e42 : y41.toInt = ab_ri h38 542 37) r43 r44 => ?_)
  rw [e42] at r43 r44
  refine mc_iast hmi H39 (k := 569) (i := a.toInt) (pc' := 77) rfl rfl rfl rfl (by omega) (by omega) (by rw [e42]; omega) (by rw [e42]; omega) rfl (fun h45 H46 w47 => ?_)
  have g3 := mc_ri w47
  have eS : ab_ri h45 542 37 = ab_ri h 542 37 + 1 := by rw [g3, if_neg (fun q => absurd q.1 (by decide))]; omega
  have eN : nz (ab_ri h45 569) 131072 ≤ nz (ab_ri h 569) 131072 + 1 := by
    have := nz_set (f := ab_ri h 569) (g := ab_ri h45 569) (a := a.toInt) (fun i hi => by rw [g3, if_neg (fun q => hi q.2), g2, if_neg (fun q => absurd q.1 (by decide)), g1, if_neg (fun q => absurd q.1 (by decide))]) 131072
    split at this <;> omega
  refine mc_ret hmi rfl rfl rfl ⟨rfl, rfl, H46, by omega, by omega, by omega, fun k i k1 k2 k3 => ?_⟩
  rw [w47, if_neg (fun q => k2 q.1), w40, if_neg (fun q => k3 q.1 q.2), w32, if_neg (fun q => k1 q.1)]
set_option maxRecDepth 100000 in
theorem ta_loop {l : Launch} {G : ax_T} {d : Nat} {h : ax_H} {n : Nat} (H0 : mc_HW h n) (s : Int32) : ∀ (c j : Nat) (h' : ax_H) (i : Int32), (j : Int) + (c : Int) = ab_ri h 542 14 → i.toInt = (j : Int) → mc_HW h' n → (∀ (k' : Nat) (i' : Int), k' ≠ 570 → ab_rd h' k' i' = ab_rd h k' i') → mc_R l G mt_X11_take d (fun r' h' n' => n' = n ∧ r' = none ∧ mc_HW h' n ∧ (∀ (k' : Nat) (i' : Int), k' ≠ 570 → ab_rd h' k' i' = ab_rd h k' i')) (16, [(0, .ref 542), (1, .int s), (2, .int i)], [], h', n, 0, 0) := by
  have hmi : mt_X11_take ∈ mt_prog := List.mem_of_getElem? mi_X11_take
  have hp : 0 ≤ ab_ri h 542 14 ∧ ab_ri h 542 14 ≤ 20 := mc_frng H0 (k := 542) (j := 14) (ci := 11) rfl rfl
  intro c
  induction c with
  | zero =>
    intro j h' i hj hi H' hfr
    have hpl : ab_ri h' 542 14 = ab_ri h 542 14 := ab_ri_of (hfr 542 14 (by decide))
    refine mc_cx hmi 2 (F' := (18, [(0, .ref 542), (1, .int s), (2, .int i)], [.ref 542, .int i], h', n, 0, 0)) (by with_unfolding_all rfl) ?_
    refine mc_geti hmi H' (k := 542) (j := 14) (pc' := 21) rfl rfl rfl rfl (fun y48 (e49 : y48.toInt = ab_ri h' 542 14) r50 r51 => ?_)
    rw [e49] at r50 r51
    refine mc_ci hmi (c := .ge) (tg := 81) (pc' := 24) rfl rfl rfl hi e49 (fun (q52 : ab_ri h' 542 14 ≤ (j : Int)) => ?_) (fun (q52 : (j : Int) < ab_ri h' 542 14) => ?_)
    · exact mc_ret hmi rfl rfl rfl ⟨rfl, rfl, H', hfr⟩
    · exact absurd q52 (by omega)
  | succ c ih =>
    intro j h' i hj hi H' hfr
    have hpl : ab_ri h' 542 14 = ab_ri h 542 14 := ab_ri_of (hfr 542 14 (by decide))
    refine mc_cx hmi 2 (F' := (18, [(0, .ref 542), (1, .int s), (2, .int i)], [.ref 542, .int i], h', n, 0, 0)) (by with_unfolding_all rfl) ?_
    refine mc_geti hmi H' (k := 542) (j := 14) (pc' := 21) rfl rfl rfl rfl (fun y53 (e54 : y53.toInt = ab_ri h' 542 14) r55 r56 => ?_)
    rw [e54] at r55 r56
    refine mc_ci hmi (c := .ge) (tg := 81) (pc' := 24) rfl rfl rfl hi e54 (fun (q57 : ab_ri h' 542 14 ≤ (j : Int)) => ?_) (fun (q57 : (j : Int) < ab_ri h' 542 14) => ?_)
    · exact absurd q57 (by omega)
    · refine mc_cx hmi 1 (F' := (25, [(0, .ref 542), (1, .int s), (2, .int i)], [.ref 542], h', n, 0, 0)) (by with_unfolding_all rfl) ?_
      refine mc_getr hmi H' (k := 542) (c := 570) (pc' := 28) rfl rfl rfl rfl rfl ?_
      refine mc_cx hmi 2 (F' := (30, [(0, .ref 542), (1, .int s), (2, .int i)], [.ref 542, .int i, .ref 570], h', n, 0, 0)) (by with_unfolding_all rfl) ?_
      refine mc_getr hmi H' (k := 542) (c := 570) (pc' := 33) rfl rfl rfl rfl rfl ?_
      refine mc_cx hmi 1 (F' := (34, [(0, .ref 542), (1, .int s), (2, .int i)], [.int i, .ref 570, .int i, .ref 570], h', n, 0, 0)) (by with_unfolding_all rfl) ?_
      refine mc_iald hmi H' (k := 570) (i := (j : Int)) (pc' := 35) rfl rfl rfl hi (by omega) (by omega) rfl (fun y58 e59 r60 r61 => ?_)
      rw [e59] at r60 r61
      refine mc_cx hmi 1 (F' := (36, [(0, .ref 542), (1, .int s), (2, .int i)], [.int (Int32.ofInt (-1)), .int y58, .int i, .ref 570], h', n, 0, 0)) (by with_unfolding_all rfl) ?_
      have key : ∀ u : Int32, -1 ≤ u.toInt → u.toInt ≤ 14 → mc_R l G mt_X11_take d (fun r' h' n' => n' = n ∧ r' = none ∧ mc_HW h' n ∧ (∀ (k' : Nat) (i' : Int), k' ≠ 570 → ab_rd h' k' i' = ab_rd h k' i')) (74, [(0, .ref 542), (1, .int s), (2, .int i)], [.int u, .int i, .ref 570], h', n, 0, 0) := by
        intro u hu0 hu1
        have b62 := Int32.le_toInt (u)
        have b63 := Int32.toInt_lt (u)
        refine mc_iast hmi H' (k := 570) (i := (j : Int)) (pc' := 75) rfl rfl rfl hi (by omega) (by omega) (by rw [show (u).toInt = u.toInt from rfl]; omega) (by rw [show (u).toInt = u.toInt from rfl]; omega) rfl (fun h64 H65 w66 => ?_)
        refine mc_cx hmi 2 (F' := (16, [(2, .int (i + Int32.ofInt 1)), (0, .ref 542), (1, .int s)], [], h64, n, 0, 0)) (by with_unfolding_all rfl) ?_
        have e67 : (i + Int32.ofInt 1).toInt = (j : Int) + 1 := mc_add hi (by decide) (by omega) (by omega)
        refine mc_lvs (lv' := [(0, .ref 542), (1, .int s), (2, .int (i + Int32.ofInt 1))]) (by simp) ?_
        exact ih (j + 1) h64 (i + Int32.ofInt 1) (by omega) (by rw [e67]; omega) H65 (fun k' i' hk => by rw [w66, if_neg (fun q => hk q.1)]; exact hfr k' i' hk)
      refine mc_ci hmi (c := .ne) (tg := 48) (pc' := 39) rfl rfl rfl e59 (by decide) (fun (q68 : ab_ri h' 570 ((j : Int)) ≠ (-1)) => ?_) (fun (q68 : ab_ri h' 570 ((j : Int)) = (-1)) => ?_)
      · refine mc_cx hmi 1 (F' := (49, [(0, .ref 542), (1, .int s), (2, .int i)], [.ref 542, .int i, .ref 570], h', n, 0, 0)) (by with_unfolding_all rfl) ?_
        refine mc_getr hmi H' (k := 542) (c := 570) (pc' := 52) rfl rfl rfl rfl rfl ?_
        refine mc_cx hmi 1 (F' := (53, [(0, .ref 542), (1, .int s), (2, .int i)], [.int i, .ref 570, .int i, .ref 570], h', n, 0, 0)) (by with_unfolding_all rfl) ?_
        refine mc_iald hmi H' (k := 570) (i := (j : Int)) (pc' := 54) rfl rfl rfl hi (by omega) (by omega) rfl (fun y73 e74 r75 r76 => ?_)
        rw [e74] at r75 r76
        refine mc_cx hmi 1 (F' := (55, [(0, .ref 542), (1, .int s), (2, .int i)], [.ref 542, .int y73, .int i, .ref 570], h', n, 0, 0)) (by with_unfolding_all rfl) ?_
        refine mc_getr hmi H' (k := 542) (c := 571) (pc' := 58) rfl rfl rfl rfl rfl ?_
        refine mc_cx hmi 1 (F' := (59, [(0, .ref 542), (1, .int s), (2, .int i)], [.int i, .ref 571, .int y73, .int i, .ref 570], h', n, 0, 0)) (by with_unfolding_all rfl) ?_
        refine mc_iald hmi H' (k := 571) (i := (j : Int)) (pc' := 60) rfl rfl rfl hi (by omega) (by omega) rfl (fun y77 e78 r79 r80 => ?_)
        rw [e78] at r79 r80
        refine mc_ci hmi (c := .ne) (tg := 72) (pc' := 63) rfl rfl rfl e74 e78 (fun (q81 : ab_ri h' 570 ((j : Int)) ≠ ab_ri h' 571 ((j : Int))) => ?_) (fun (q81 : ab_ri h' 570 ((j : Int)) = ab_ri h' 571 ((j : Int))) => ?_)
        · refine mc_cx hmi 1 (F' := (74, [(0, .ref 542), (1, .int s), (2, .int i)], [.int (Int8.ofInt 14).toInt32, .int i, .ref 570], h', n, 0, 0)) (by with_unfolding_all rfl) ?_
          exact key _ (by rw [show ((Int8.ofInt 14).toInt32).toInt = 14 from by decide]; omega) (by rw [show ((Int8.ofInt 14).toInt32).toInt = 14 from by decide]; omega)
        · refine mc_cx hmi 1 (F' := (64, [(0, .ref 542), (1, .int s), (2, .int i)], [.ref 542, .int i, .ref 570], h', n, 0, 0)) (by with_unfolding_all rfl) ?_
          refine mc_getr hmi H' (k := 542) (c := 571) (pc' := 67) rfl rfl rfl rfl rfl ?_
          refine mc_cx hmi 1 (F' := (68, [(0, .ref 542), (1, .int s), (2, .int i)], [.int i, .ref 571, .int i, .ref 570], h', n, 0, 0)) (by with_unfolding_all rfl) ?_
          refine mc_iald hmi H' (k := 571) (i := (j : Int)) (pc' := 69) rfl rfl rfl hi (by omega) (by omega) rfl (fun y82 e83 r84 r85 => ?_)
          rw [e83] at r84 r85
          refine mc_cx hmi 1 (F' := (74, [(0, .ref 542), (1, .int s), (2, .int i)], [.int y82, .int i, .ref 570], h', n, 0, 0)) (by with_unfolding_all rfl) ?_
          exact key _ (by rw [e83]; omega) (by rw [e83]; omega)
      · refine mc_cx hmi 1 (F' := (40, [(0, .ref 542), (1, .int s), (2, .int i)], [.ref 542, .int i, .ref 570], h', n, 0, 0)) (by with_unfolding_all rfl) ?_
        refine mc_getr hmi H' (k := 542) (c := 571) (pc' := 43) rfl rfl rfl rfl rfl ?_
        refine mc_cx hmi 1 (F' := (44, [(0, .ref 542), (1, .int s), (2, .int i)], [.int i, .ref 571, .int i, .ref 570], h', n, 0, 0)) (by with_unfolding_all rfl) ?_
        refine mc_iald hmi H' (k := 571) (i := (j : Int)) (pc' := 45) rfl rfl rfl hi (by omega) (by omega) rfl (fun y69 e70 r71 r72 => ?_)
        rw [e70] at r71 r72
        refine mc_cx hmi 1 (F' := (74, [(0, .ref 542), (1, .int s), (2, .int i)], [.int y69, .int i, .ref 570], h', n, 0, 0)) (by with_unfolding_all rfl) ?_
        exact key _ (by rw [e70]; omega) (by rw [e70]; omega)
set_option maxRecDepth 100000 in
theorem mc_take {l : Launch} {G : ax_T} {d : Nat} {h : ax_H} {n : Nat} (hd : 3 ≤ d) (H : mc_HW h n) (s : Int32) (hs0 : 0 ≤ s.toInt) (hs : s.toInt ≤ 21) (h13 : ∀ j : Int, 0 ≤ j → j < s.toInt → ab_ri h 571 j ≤ 13) (hs1 : 0 ≤ ab_ri h 542 37) (hs2 : ab_ri h 542 37 ≤ 39999) (hnz : (nz (ab_ri h 569) 131072 : Int) ≤ ab_ri h 542 37) : mc_M l G d mt_X11_take [.ref 542, .int s] h n (fun r' h' n' => n' = n ∧ r' = none ∧ mc_HW h' n ∧ ab_ri h 542 37 ≤ ab_ri h' 542 37 ∧ ab_ri h' 542 37 ≤ ab_ri h 542 37 + 1 ∧ (nz (ab_ri h' 569) 131072 : Int) ≤ nz (ab_ri h 569) 131072 + (ab_ri h' 542 37 - ab_ri h 542 37) ∧ (∀ (k' : Nat) (i' : Int), k' ≠ 568 → k' ≠ 569 → k' ≠ 570 → (k' = 542 → i' ≠ 37) → ab_rd h' k' i' = ab_rd h k' i')) := by
  obtain ⟨d, rfl⟩ : ∃ e, d = e + 1 := ⟨d - 1, by omega⟩
  have hmi : mt_X11_take ∈ mt_prog := List.mem_of_getElem? mi_X11_take
  have hp : 0 ≤ ab_ri h 542 14 ∧ ab_ri h 542 14 ≤ 20 := mc_frng H (k := 542) (j := 14) (ci := 11) rfl rfl
  refine mc_to hmi rfl ?_
  show mc_R _ _ _ _ _ (0, [(0, .ref 542), (1, .int s)], [], h, n, 0, 0)
  refine mc_cx hmi 3 (F' := (3, [(0, .ref 542), (1, .int s)], [.ref 542, .ref 542, .ref 542], h, n, 0, 0)) (by with_unfolding_all rfl) ?_
  refine mc_getr hmi H (k := 542) (c := 571) (pc' := 6) rfl rfl rfl rfl rfl ?_
  refine mc_cx hmi 2 (F' := (8, [(0, .ref 542), (1, .int s)], [.int s, .int (Int32.ofInt 0), .ref 571, .ref 542, .ref 542], h, n, 0, 0)) (by with_unfolding_all rfl) ?_
  refine mc_callP hmi (en := (8, .invokevirtual 149, 3, (3, 166, 11, 0), [1326, 79, 1324])) rfl (q := (mt_X11_worthOf, [.ref 542, .ref 571, .int (Int32.ofInt 0), .int s], [.ref 542])) (mc_inv H (as := [.ref 571, .int (Int32.ofInt 0), .int s]) (rest := [.ref 542]) rfl (by with_unfolding_all rfl) rfl rfl rfl) ⟨rfl, rfl⟩ (pc' := 11) rfl (mc_worthOf (by omega) H (Int32.ofInt 0) s (by decide) hs0 hs h13) (fun y86 e87 => ?_)
  refine mc_call hmi (en := (11, .invokevirtual 269, 3, (3, 204, 11, 0), [1510, 104, 1508])) rfl (q := (mt_X11_say, [.ref 542, .int y86], [])) (mc_inv H (as := [.int y86]) (rest := []) rfl (by with_unfolding_all rfl) rfl rfl rfl) ⟨rfl, rfl⟩ (pc' := 14) rfl (mc_mono (mc_say (by omega) H y86 hs1 hs2 hnz) ?_)
  intro r1 h1 n1 P1
  obtain ⟨e1, e2, S1⟩ := P1
  rw [e1, e2]
  show mc_R _ _ _ _ _ (14, [(0, .ref 542), (1, .int s)], [], h1, n, 0, 0)
  refine mc_cx hmi 2 (F' := (16, [(2, .int (Int32.ofInt 0)), (0, .ref 542), (1, .int s)], [], h1, n, 0, 0)) (by with_unfolding_all rfl) ?_
  refine mc_lvs (lv' := [(0, .ref 542), (1, .int s), (2, .int (Int32.ofInt 0))]) (by simp) ?_
  have ep : ab_ri h1 542 14 = ab_ri h 542 14 := ab_ri_of (S1.2.2.2.2 542 14 (by decide) (by decide) (by omega))
  obtain ⟨o, k1, k2, k3, k4, k5, k6⟩ := ta_loop (l := l) (G := G) (d := d) (h := h1) S1.1 s (ab_ri h1 542 14).toNat 0 h1 (Int32.ofInt 0) (by omega) rfl S1.1 (fun _ _ _ => rfl)
  have es : ab_ri o.2.1 542 37 = ab_ri h1 542 37 := ab_ri_of (k6 542 37 (by decide))
  have en : nz (ab_ri o.2.1 569) 131072 = nz (ab_ri h1 569) 131072 := nz_of _ (fun i _ => ab_ri_of (k6 569 i (by decide)))
  refine ⟨o, k1, k2, k3, k4, k5, by rw [es]; exact S1.2.1, by rw [es]; exact S1.2.2.1, by rw [es, en]; exact S1.2.2.2.1, fun k' i' a b c e => ?_⟩
  rw [k6 k' i' c]; exact S1.2.2.2.2 k' i' a b e
def fo (h : ax_H) (j : Nat) : Bool := decide (ab_ri h 542 14 ≤ (j : Int)) || decide (ab_ri h 554 (j : Int) = 14)
set_option maxRecDepth 100000 in
theorem mc_isOpen {l : Launch} {G : ax_T} {d : Nat} {h : ax_H} {n : Nat} (hd : 1 ≤ d) (H : mc_HW h n) (a : Int32) {j : Nat} (ha : a.toInt = (j : Int)) : mc_M l G d mt_X11_isOpen [.ref 542, .int a] h n (mc_P h n fun y => y.toInt = (if fo h j then 1 else 0)) := by
  obtain ⟨d, rfl⟩ : ∃ e, d = e + 1 := ⟨d - 1, by omega⟩
  have hmi : mt_X11_isOpen ∈ mt_prog := List.mem_of_getElem? mi_X11_isOpen
  have hp : 0 ≤ ab_ri h 542 14 ∧ ab_ri h 542 14 ≤ 20 := mc_frng H (k := 542) (j := 14) (ci := 11) rfl rfl
  refine mc_to hmi rfl ?_
  show mc_R _ _ _ _ _ (0, [(0, .ref 542), (1, .int a)], [], h, n, 0, 0)
  refine mc_cx hmi 2 (F' := (2, [(0, .ref 542), (1, .int a)], [.ref 542, .int a], h, n, 0, 0)) (by with_unfolding_all rfl) ?_
  refine mc_geti hmi H (k := 542) (j := 14) (pc' := 5) rfl rfl rfl rfl (fun y88 (e89 : y88.toInt = ab_ri h 542 14) r90 r91 => ?_)
  rw [e89] at r90 r91
  refine mc_ci hmi (c := .ge) (tg := 19) (pc' := 8) rfl rfl rfl ha e89 (fun (q92 : ab_ri h 542 14 ≤ (j : Int)) => ?_) (fun (q92 : (j : Int) < ab_ri h 542 14) => ?_)
  · refine mc_cx hmi 2 (F' := (24, [(0, .ref 542), (1, .int a)], [.int (Int32.ofInt 1)], h, n, 0, 0)) (by with_unfolding_all rfl) ?_
    exact mc_ret hmi rfl rfl rfl ⟨rfl, rfl, _, rfl, by unfold fo; rw [decide_eq_true q92, Bool.true_or]; decide⟩
  · refine mc_cx hmi 1 (F' := (9, [(0, .ref 542), (1, .int a)], [.ref 542], h, n, 0, 0)) (by with_unfolding_all rfl) ?_
    refine mc_getr hmi H (k := 542) (c := 554) (pc' := 12) rfl rfl rfl rfl rfl ?_
    refine mc_cx hmi 1 (F' := (13, [(0, .ref 542), (1, .int a)], [.int a, .ref 554], h, n, 0, 0)) (by with_unfolding_all rfl) ?_
    refine mc_iald hmi H (k := 554) (i := (j : Int)) (pc' := 14) rfl rfl rfl ha (by omega) (by omega) rfl (fun y93 e94 r95 r96 => ?_)
    rw [e94] at r95 r96
    refine mc_cx hmi 1 (F' := (16, [(0, .ref 542), (1, .int a)], [.int (Int8.ofInt 14).toInt32, .int y93], h, n, 0, 0)) (by with_unfolding_all rfl) ?_
    refine mc_ci hmi (c := .ne) (tg := 23) (pc' := 19) rfl rfl rfl e94 (by decide) (fun (q97 : ab_ri h 554 ((j : Int)) ≠ 14) => ?_) (fun (q97 : ab_ri h 554 ((j : Int)) = 14) => ?_)
    · refine mc_cx hmi 1 (F' := (24, [(0, .ref 542), (1, .int a)], [.int (Int32.ofInt 0)], h, n, 0, 0)) (by with_unfolding_all rfl) ?_
      exact mc_ret hmi rfl rfl rfl ⟨rfl, rfl, _, rfl, by unfold fo; rw [decide_eq_false (show ¬ ab_ri h 542 14 ≤ (j : Int) by omega), decide_eq_false q97]; decide⟩
    · refine mc_cx hmi 2 (F' := (24, [(0, .ref 542), (1, .int a)], [.int (Int32.ofInt 1)], h, n, 0, 0)) (by with_unfolding_all rfl) ?_
      exact mc_ret hmi rfl rfl rfl ⟨rfl, rfl, _, rfl, by unfold fo; rw [decide_eq_true q97, Bool.or_true]; decide⟩
set_option maxRecDepth 100000 in
theorem mc_first {l : Launch} {G : ax_T} {d : Nat} {h : ax_H} {n : Nat} (hd : 2 ≤ d) (H : mc_HW h n) (a : Int32) {j : Nat} (ha : a.toInt = (j : Int)) : mc_M l G d mt_X11_first [.ref 542, .int a] h n (mc_P h n fun y => y.toInt = (if fo h j then 0 else ab_ri h 554 (j : Int))) := by
  obtain ⟨d, rfl⟩ : ∃ e, d = e + 1 := ⟨d - 1, by omega⟩
  have hmi : mt_X11_first ∈ mt_prog := List.mem_of_getElem? mi_X11_first
  have hp : 0 ≤ ab_ri h 542 14 ∧ ab_ri h 542 14 ≤ 20 := mc_frng H (k := 542) (j := 14) (ci := 11) rfl rfl
  refine mc_to hmi rfl ?_
  show mc_R _ _ _ _ _ (0, [(0, .ref 542), (1, .int a)], [], h, n, 0, 0)
  refine mc_cx hmi 2 (F' := (2, [(0, .ref 542), (1, .int a)], [.int a, .ref 542], h, n, 0, 0)) (by with_unfolding_all rfl) ?_
  refine mc_callP hmi (en := (2, .invokevirtual 266, 3, (3, 207, 11, 0), [1498, 101, 1496])) rfl (q := (mt_X11_isOpen, [.ref 542, .int a], [])) (mc_inv H (as := [.int a]) (rest := []) rfl (by with_unfolding_all rfl) rfl rfl rfl) ⟨rfl, rfl⟩ (pc' := 5) rfl (mc_isOpen (by omega) H a ha) (fun y98 e99 => ?_)
  cases ho : fo h j with
  | true =>
    rw [ho, if_pos rfl] at e99
    refine mc_cz hmi (c := .eq) (tg := 12) (pc' := 8) rfl rfl rfl rfl (fun (q100 : y98.toInt = 0) => ?_) (fun (q100 : y98.toInt ≠ 0) => ?_)
    · exact absurd q100 (by omega)
    · refine mc_cx hmi 2 (F' := (18, [(0, .ref 542), (1, .int a)], [.int (Int32.ofInt 0)], h, n, 0, 0)) (by with_unfolding_all rfl) ?_
      exact mc_ret hmi rfl rfl rfl ⟨rfl, rfl, _, rfl, by rw [if_pos rfl]; decide⟩
  | false =>
    rw [ho, if_neg (by decide)] at e99
    have hlt : (j : Int) < ab_ri h 542 14 := by
      unfold fo at ho; rw [Bool.or_eq_false_iff] at ho; have := of_decide_eq_false ho.1; omega
    refine mc_cz hmi (c := .eq) (tg := 12) (pc' := 8) rfl rfl rfl rfl (fun (q101 : y98.toInt = 0) => ?_) (fun (q101 : y98.toInt ≠ 0) => ?_)
    · refine mc_cx hmi 1 (F' := (13, [(0, .ref 542), (1, .int a)], [.ref 542], h, n, 0, 0)) (by with_unfolding_all rfl) ?_
      refine mc_getr hmi H (k := 542) (c := 554) (pc' := 16) rfl rfl rfl rfl rfl ?_
      refine mc_cx hmi 1 (F' := (17, [(0, .ref 542), (1, .int a)], [.int a, .ref 554], h, n, 0, 0)) (by with_unfolding_all rfl) ?_
      refine mc_iald hmi H (k := 554) (i := (j : Int)) (pc' := 18) rfl rfl rfl ha (by omega) (by omega) rfl (fun y102 e103 r104 r105 => ?_)
      rw [e103] at r104 r105
      exact mc_ret hmi rfl rfl rfl ⟨rfl, rfl, _, rfl, by rw [if_neg (by decide)]; exact e103⟩
    · exact absurd q101 (by omega)
set_option maxRecDepth 100000 in
theorem mc_after {l : Launch} {G : ax_T} {d : Nat} {h : ax_H} {n : Nat} (hd : 2 ≤ d) (H : mc_HW h n) (a : Int32) {j : Nat} (ha : a.toInt = (j : Int)) (hj : j < 21) : mc_M l G d mt_X11_after [.ref 542, .int a] h n (mc_P h n fun y => y.toInt = (if fo h j then ab_ri h 571 (j : Int) + 1 else 14)) := by
  obtain ⟨d, rfl⟩ : ∃ e, d = e + 1 := ⟨d - 1, by omega⟩
  have hmi : mt_X11_after ∈ mt_prog := List.mem_of_getElem? mi_X11_after
  refine mc_to hmi rfl ?_
  show mc_R _ _ _ _ _ (0, [(0, .ref 542), (1, .int a)], [], h, n, 0, 0)
  refine mc_cx hmi 2 (F' := (2, [(0, .ref 542), (1, .int a)], [.int a, .ref 542], h, n, 0, 0)) (by with_unfolding_all rfl) ?_
  refine mc_callP hmi (en := (2, .invokevirtual 266, 3, (3, 207, 11, 0), [1498, 101, 1496])) rfl (q := (mt_X11_isOpen, [.ref 542, .int a], [])) (mc_inv H (as := [.int a]) (rest := []) rfl (by with_unfolding_all rfl) rfl rfl rfl) ⟨rfl, rfl⟩ (pc' := 5) rfl (mc_isOpen (by omega) H a ha) (fun y106 e107 => ?_)
  cases ho : fo h j with
  | true =>
    rw [ho, if_pos rfl] at e107
    refine mc_cz hmi (c := .eq) (tg := 19) (pc' := 8) rfl rfl rfl rfl (fun (q108 : y106.toInt = 0) => ?_) (fun (q108 : y106.toInt ≠ 0) => ?_)
    · exact absurd q108 (by omega)
    · refine mc_cx hmi 1 (F' := (9, [(0, .ref 542), (1, .int a)], [.ref 542], h, n, 0, 0)) (by with_unfolding_all rfl) ?_
      refine mc_getr hmi H (k := 542) (c := 571) (pc' := 12) rfl rfl rfl rfl rfl ?_
      refine mc_cx hmi 1 (F' := (13, [(0, .ref 542), (1, .int a)], [.int a, .ref 571], h, n, 0, 0)) (by with_unfolding_all rfl) ?_
      refine mc_iald hmi H (k := 571) (i := (j : Int)) (pc' := 14) rfl rfl rfl ha (by omega) (by omega) rfl (fun y109 e110 r111 r112 => ?_)
      rw [e110] at r111 r112
      refine mc_cx hmi 3 (F' := (21, [(0, .ref 542), (1, .int a)], [.int (y109 + (Int32.ofInt 1))], h, n, 0, 0)) (by with_unfolding_all rfl) ?_
      have e113 : (y109 + (Int32.ofInt 1)).toInt = ab_ri h 571 ((j : Int)) + 1 := mc_add e110 (by decide) (by omega) (by omega)
      exact mc_ret hmi rfl rfl rfl ⟨rfl, rfl, _, rfl, by rw [if_pos rfl]; exact e113⟩
  | false =>
    rw [ho, if_neg (by decide)] at e107
    refine mc_cz hmi (c := .eq) (tg := 19) (pc' := 8) rfl rfl rfl rfl (fun (q114 : y106.toInt = 0) => ?_) (fun (q114 : y106.toInt ≠ 0) => ?_)
    · refine mc_cx hmi 1 (F' := (21, [(0, .ref 542), (1, .int a)], [.int (Int8.ofInt 14).toInt32], h, n, 0, 0)) (by with_unfolding_all rfl) ?_
      exact mc_ret hmi rfl rfl rfl ⟨rfl, rfl, _, rfl, by rw [if_neg (by decide)]; decide⟩
    · exact absurd q114 (by omega)
end
