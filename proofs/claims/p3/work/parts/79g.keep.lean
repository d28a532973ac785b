/-! ===== by hand: keepsAll over what is filled in, in the reference (ways printed by wip/hand/h_keep.py) ===== -/
set_option maxRecDepth 100000 in
theorem mb_loop {l : Launch} {G : ax_T} {d : Nat} {h : ax_H} {n : Nat} (hd : 1 ≤ d) (H : mc_HW h n) (k a t x c : Int32) (hk0 : 0 ≤ k.toInt) (hk1 : k.toInt ≤ 5) (ha0 : 0 ≤ a.toInt) (ha1 : a.toInt ≤ 13) : ∀ (e : Nat) (b : Int32), b.toInt + (e : Int) = 14 → a.toInt < b.toInt → mc_R l G mt_X11_mayBegin d (mc_P h n fun y => y.toInt = 0 ∨ y.toInt = 1) (5, [(0, .ref 542), (1, .int k), (2, .int a), (3, .int t), (4, .int x), (5, .int c), (6, .int b)], [], h, n, 0, 0) := by
  have hmi : mt_X11_mayBegin ∈ mt_prog := List.mem_of_getElem? mi_X11_mayBegin
  intro e
  induction e with
  | zero =>
    intro b hb hab
    refine mc_cx hmi 2 (F' := (9, [(0, .ref 542), (1, .int k), (2, .int a), (3, .int t), (4, .int x), (5, .int c), (6, .int b)], [.int (Int8.ofInt 14).toInt32, .int b], h, n, 0, 0)) (by with_unfolding_all rfl) ?_
    refine mc_ci hmi (c := .ge) (tg := 80) (pc' := 12) rfl rfl rfl rfl (by decide) (fun (q1 : 14 ≤ b.toInt) => ?_) (fun (q1 : b.toInt < 14) => ?_)
    · refine mc_cx hmi 1 (F' := (81, [(0, .ref 542), (1, .int k), (2, .int a), (3, .int t), (4, .int x), (5, .int c), (6, .int b)], [.int (Int32.ofInt 0)], h, n, 0, 0)) (by with_unfolding_all rfl) ?_
      exact mc_ret hmi rfl rfl rfl ⟨rfl, rfl, _, rfl, by decide⟩
    · exact absurd q1 (by omega)
  | succ e ih =>
    intro b hb hab
    refine mc_cx hmi 2 (F' := (9, [(0, .ref 542), (1, .int k), (2, .int a), (3, .int t), (4, .int x), (5, .int c), (6, .int b)], [.int (Int8.ofInt 14).toInt32, .int b], h, n, 0, 0)) (by with_unfolding_all rfl) ?_
    refine mc_ci hmi (c := .ge) (tg := 80) (pc' := 12) rfl rfl rfl rfl (by decide) (fun (q2 : 14 ≤ b.toInt) => ?_) (fun (q2 : b.toInt < 14) => ?_)
    · exact absurd q2 (by omega)
    · have nxt : mc_R l G mt_X11_mayBegin d (mc_P h n fun y => y.toInt = 0 ∨ y.toInt = 1) (74, [(0, .ref 542), (1, .int k), (2, .int a), (3, .int t), (4, .int x), (5, .int c), (6, .int b)], [], h, n, 0, 0) := by
        refine mc_cx hmi 2 (F' := (5, [(6, .int (b + Int32.ofInt 1)), (0, .ref 542), (1, .int k), (2, .int a), (3, .int t), (4, .int x), (5, .int c)], [], h, n, 0, 0)) (by with_unfolding_all rfl) ?_
        have e3 : (b + Int32.ofInt 1).toInt = b.toInt + 1 := mc_add rfl (by decide) (by omega) (by omega)
        refine mc_lvs (lv' := [(0, .ref 542), (1, .int k), (2, .int a), (3, .int t), (4, .int x), (5, .int c), (6, .int (b + Int32.ofInt 1))]) (by simp) ?_
        exact ih (b + Int32.ofInt 1) (by rw [e3]; omega) (by rw [e3]; omega)
      have key : ∀ u : Int32, mc_R l G mt_X11_mayBegin d (mc_P h n fun y => y.toInt = 0 ∨ y.toInt = 1) (51, [(0, .ref 542), (1, .int k), (2, .int a), (3, .int t), (4, .int x), (5, .int c), (6, .int b)], [.int u], h, n, 0, 0) := by
        intro u
        refine mc_cx hmi 2 (F' := (55, [(7, .int u), (0, .ref 542), (1, .int k), (2, .int a), (3, .int t), (4, .int x), (5, .int c), (6, .int b)], [.int u], h, n, 0, 0)) (by with_unfolding_all rfl) ?_
        refine mc_cz hmi (c := .eq) (tg := 74) (pc' := 58) rfl rfl rfl rfl (fun (q4 : u.toInt = 0) => ?_) (fun (q4 : u.toInt ≠ 0) => ?_)
        · refine mc_lvs (lv' := [(0, .ref 542), (1, .int k), (2, .int a), (3, .int t), (4, .int x), (5, .int c), (6, .int b)]) (by simp) ?_
          exact nxt
        · refine mc_cx hmi 2 (F' := (62, [(7, .int u), (0, .ref 542), (1, .int k), (2, .int a), (3, .int t), (4, .int x), (5, .int c), (6, .int b)], [.int x, .int b], h, n, 0, 0)) (by with_unfolding_all rfl) ?_
          refine mc_ci hmi (c := .gt) (tg := 74) (pc' := 65) rfl rfl rfl rfl rfl (fun (q5 : x.toInt < b.toInt) => ?_) (fun (q5 : b.toInt ≤ x.toInt) => ?_)
          · refine mc_lvs (lv' := [(0, .ref 542), (1, .int k), (2, .int a), (3, .int t), (4, .int x), (5, .int c), (6, .int b)]) (by simp) ?_
            exact nxt
          · refine mc_cx hmi 2 (F' := (69, [(7, .int u), (0, .ref 542), (1, .int k), (2, .int a), (3, .int t), (4, .int x), (5, .int c), (6, .int b)], [.int c, .int b], h, n, 0, 0)) (by with_unfolding_all rfl) ?_
            refine mc_ci hmi (c := .ge) (tg := 74) (pc' := 72) rfl rfl rfl rfl rfl (fun (q6 : c.toInt ≤ b.toInt) => ?_) (fun (q6 : b.toInt < c.toInt) => ?_)
            · refine mc_lvs (lv' := [(0, .ref 542), (1, .int k), (2, .int a), (3, .int t), (4, .int x), (5, .int c), (6, .int b)]) (by simp) ?_
              exact nxt
            · refine mc_cx hmi 1 (F' := (73, [(7, .int u), (0, .ref 542), (1, .int k), (2, .int a), (3, .int t), (4, .int x), (5, .int c), (6, .int b)], [.int (Int32.ofInt 1)], h, n, 0, 0)) (by with_unfolding_all rfl) ?_
              exact mc_ret hmi rfl rfl rfl ⟨rfl, rfl, _, rfl, by decide⟩
      have k46 : mc_R l G mt_X11_mayBegin d (mc_P h n fun y => y.toInt = 0 ∨ y.toInt = 1) (46, [(0, .ref 542), (1, .int k), (2, .int a), (3, .int t), (4, .int x), (5, .int c), (6, .int b)], [], h, n, 0, 0) := by
        refine mc_cx hmi 2 (F' := (51, [(0, .ref 542), (1, .int k), (2, .int a), (3, .int t), (4, .int x), (5, .int c), (6, .int b)], [.int (Int32.ofInt 1)], h, n, 0, 0)) (by with_unfolding_all rfl) ?_
        exact key _
      have k50 : mc_R l G mt_X11_mayBegin d (mc_P h n fun y => y.toInt = 0 ∨ y.toInt = 1) (50, [(0, .ref 542), (1, .int k), (2, .int a), (3, .int t), (4, .int x), (5, .int c), (6, .int b)], [], h, n, 0, 0) := by
        refine mc_cx hmi 1 (F' := (51, [(0, .ref 542), (1, .int k), (2, .int a), (3, .int t), (4, .int x), (5, .int c), (6, .int b)], [.int (Int32.ofInt 0)], h, n, 0, 0)) (by with_unfolding_all rfl) ?_
        exact key _
      have k29 : mc_R l G mt_X11_mayBegin d (mc_P h n fun y => y.toInt = 0 ∨ y.toInt = 1) (29, [(0, .ref 542), (1, .int k), (2, .int a), (3, .int t), (4, .int x), (5, .int c), (6, .int b)], [], h, n, 0, 0) := by
        refine mc_cx hmi 2 (F' := (31, [(0, .ref 542), (1, .int k), (2, .int a), (3, .int t), (4, .int x), (5, .int c), (6, .int b)], [.int (Int32.ofInt 2), .int t], h, n, 0, 0)) (by with_unfolding_all rfl) ?_
        refine mc_ci hmi (c := .gt) (tg := 50) (pc' := 34) rfl rfl rfl rfl (by decide) (fun (q7 : 2 < t.toInt) => ?_) (fun (q7 : t.toInt ≤ 2) => ?_)
        · exact k50
        · refine mc_cx hmi 5 (F' := (40, [(0, .ref 542), (1, .int k), (2, .int a), (3, .int t), (4, .int x), (5, .int c), (6, .int b)], [.int (Int32.ofInt 2), .int b, .int a, .int k, .ref 542], h, n, 0, 0)) (by with_unfolding_all rfl) ?_
          refine mc_callP hmi (en := (40, .invokevirtual 154, 3, (3, 169, 11, 0), [1342, 81, 1340])) rfl (q := (mt_X11_mayTake, [.ref 542, .int k, .int a, .int b, .int (Int32.ofInt 2)], [])) (mc_inv H (as := [.int k, .int a, .int b, .int (Int32.ofInt 2)]) (rest := []) rfl (by with_unfolding_all rfl) rfl rfl rfl) ⟨rfl, rfl⟩ (pc' := 43) rfl (mc_mayTake hd H k a b (Int32.ofInt 2) hk0 hk1 ha0 ha1) (fun y8 e9 => ?_)
          refine mc_cz hmi (c := .eq) (tg := 50) (pc' := 46) rfl rfl rfl rfl (fun (q10 : y8.toInt = 0) => ?_) (fun (q10 : y8.toInt ≠ 0) => ?_)
          · exact k50
          · exact k46
      refine mc_cx hmi 2 (F' := (14, [(0, .ref 542), (1, .int k), (2, .int a), (3, .int t), (4, .int x), (5, .int c), (6, .int b)], [.int (Int32.ofInt 1), .int t], h, n, 0, 0)) (by with_unfolding_all rfl) ?_
      refine mc_ci hmi (c := .ne) (tg := 29) (pc' := 17) rfl rfl rfl rfl (by decide) (fun (q11 : t.toInt ≠ 1) => ?_) (fun (q11 : t.toInt = 1) => ?_)
      · exact k29
      · refine mc_cx hmi 5 (F' := (23, [(0, .ref 542), (1, .int k), (2, .int a), (3, .int t), (4, .int x), (5, .int c), (6, .int b)], [.int (Int32.ofInt 1), .int b, .int a, .int k, .ref 542], h, n, 0, 0)) (by with_unfolding_all rfl) ?_
        refine mc_callP hmi (en := (23, .invokevirtual 154, 3, (3, 169, 11, 0), [1342, 81, 1340])) rfl (q := (mt_X11_mayTake, [.ref 542, .int k, .int a, .int b, .int (Int32.ofInt 1)], [])) (mc_inv H (as := [.int k, .int a, .int b, .int (Int32.ofInt 1)]) (rest := []) rfl (by with_unfolding_all rfl) rfl rfl rfl) ⟨rfl, rfl⟩ (pc' := 26) rfl (mc_mayTake hd H k a b (Int32.ofInt 1) hk0 hk1 ha0 ha1) (fun y12 e13 => ?_)
        refine mc_cz hmi (c := .ne) (tg := 46) (pc' := 29) rfl rfl rfl rfl (fun (q14 : y12.toInt ≠ 0) => ?_) (fun (q14 : y12.toInt = 0) => ?_)
        · exact k46
        · exact k29
set_option maxRecDepth 100000 in
theorem mc_mayBegin {l : Launch} {G : ax_T} {d : Nat} {h : ax_H} {n : Nat} (hd : 2 ≤ d) (H : mc_HW h n) (k a t x c : Int32) (hk0 : 0 ≤ k.toInt) (hk1 : k.toInt ≤ 5) (ha0 : 0 ≤ a.toInt) (ha1 : a.toInt ≤ 13) : mc_M l G d mt_X11_mayBegin [.ref 542, .int k, .int a, .int t, .int x, .int c] h n (mc_P h n fun y => y.toInt = 0 ∨ y.toInt = 1) := by
  obtain ⟨d, rfl⟩ : ∃ e, d = e + 1 := ⟨d - 1, by omega⟩
  have hmi : mt_X11_mayBegin ∈ mt_prog := List.mem_of_getElem? mi_X11_mayBegin
  refine mc_to hmi rfl ?_
  show mc_R _ _ _ _ _ (0, [(0, .ref 542), (1, .int k), (2, .int a), (3, .int t), (4, .int x), (5, .int c)], [], h, n, 0, 0)
  refine mc_cx hmi 4 (F' := (5, [(6, .int (a + (Int32.ofInt 1))), (0, .ref 542), (1, .int k), (2, .int a), (3, .int t), (4, .int x), (5, .int c)], [], h, n, 0, 0)) (by with_unfolding_all rfl) ?_
  have e15 : (a + (Int32.ofInt 1)).toInt = a.toInt + 1 := mc_add rfl (by decide) (by omega) (by omega)
  refine mc_lvs (lv' := [(0, .ref 542), (1, .int k), (2, .int a), (3, .int t), (4, .int x), (5, .int c), (6, .int (a + (Int32.ofInt 1)))]) (by simp) ?_
  exact mb_loop (by omega) H k a t x c hk0 hk1 ha0 ha1 (13 - a.toInt).toNat (a + (Int32.ofInt 1)) (by rw [e15]; omega) (by rw [e15]; omega)
/-- a first sign that is followed by another one has no third behind it -/
def ka_K (f : Int → Int) (s a : Int) : Prop := ∀ p q : Int, 0 ≤ p → p < a → p < q → q < s - 1 → f p = 0 → f q = 0
def ka_Q (f : Int → Int) (s w : Int) (y : Int32) : Prop := (y.toInt = 0 ∨ y.toInt = 1) ∧ (y.toInt = 1 → w ≠ 0 → ka_K f s s)
set_option maxRecDepth 100000 in
theorem ka_0 {f : Int → Int} {s w : Int} {y : Int32} (h : y.toInt = 0) : ka_Q f s w y := ⟨Or.inl h, fun q => by omega⟩
set_option maxRecDepth 100000 in
theorem ka_b {l : Launch} {G : ax_T} {d : Nat} {h : ax_H} {n : Nat} (hd0 : 2 ≤ d) (H : mc_HW h n) (f s k w : Int32) (hf : f.toInt = 0) (hs : s.toInt ≤ 21) (hk0 : 0 ≤ k.toInt) (hk1 : k.toInt ≤ 5) (h13 : ∀ j : Int, 0 ≤ j → j < s.toInt → 0 ≤ ab_ri h 571 j ∧ ab_ri h 571 j ≤ 13) (hd cp at' ph x : Int32) (kk : ∀ e : Int32, at'.toInt < e.toInt → e.toInt ≤ s.toInt → (∀ j : Int, at'.toInt ≤ j → j < e.toInt → ab_ri h 571 j = x.toInt) → (s.toInt ≤ e.toInt ∨ ab_ri h 571 e.toInt ≠ x.toInt) → mc_R l G mt_X11_keepsAll d (mc_P h n (ka_Q (ab_ri h 571) s.toInt w.toInt)) (55, [(0, .ref 542), (1, .ref 571), (2, .int f), (3, .int s), (4, .int k), (5, .int w), (6, .int hd), (7, .int cp), (8, .int at'), (9, .int ph), (10, .int x), (11, .int e)], [], h, n, 0, 0)) : ∀ (c : Nat) (e : Int32), e.toInt + (c : Int) = s.toInt → (at'.toInt < e.toInt ∨ e.toInt = at'.toInt ∧ e.toInt < s.toInt ∧ ab_ri h 571 e.toInt = x.toInt) → 0 ≤ at'.toInt → (∀ j : Int, at'.toInt ≤ j → j < e.toInt → ab_ri h 571 j = x.toInt) → mc_R l G mt_X11_keepsAll d (mc_P h n (ka_Q (ab_ri h 571) s.toInt w.toInt)) (32, [(0, .ref 542), (1, .ref 571), (2, .int f), (3, .int s), (4, .int k), (5, .int w), (6, .int hd), (7, .int cp), (8, .int at'), (9, .int ph), (10, .int x), (11, .int e)], [], h, n, 0, 0) := by
  have hmi : mt_X11_keepsAll ∈ mt_prog := List.mem_of_getElem? mi_X11_keepsAll
  intro c
  induction c with
  | zero =>
    intro e he hae ha0 hrun
    refine mc_cx hmi 2 (F' := (35, [(0, .ref 542), (1, .ref 571), (2, .int f), (3, .int s), (4, .int k), (5, .int w), (6, .int hd), (7, .int cp), (8, .int at'), (9, .int ph), (10, .int x), (11, .int e)], [.int s, .int e], h, n, 0, 0)) (by with_unfolding_all rfl) ?_
    refine mc_ci hmi (c := .ge) (tg := 55) (pc' := 38) rfl rfl rfl rfl rfl (fun (q16 : s.toInt ≤ e.toInt) => ?_) (fun (q16 : e.toInt < s.toInt) => ?_)
    · exact kk e (by omega) (by omega) hrun (Or.inl (by omega))
    · exact absurd q16 (by omega)
  | succ c ih =>
    intro e he hae ha0 hrun
    refine mc_cx hmi 2 (F' := (35, [(0, .ref 542), (1, .ref 571), (2, .int f), (3, .int s), (4, .int k), (5, .int w), (6, .int hd), (7, .int cp), (8, .int at'), (9, .int ph), (10, .int x), (11, .int e)], [.int s, .int e], h, n, 0, 0)) (by with_unfolding_all rfl) ?_
    refine mc_ci hmi (c := .ge) (tg := 55) (pc' := 38) rfl rfl rfl rfl rfl (fun (q17 : s.toInt ≤ e.toInt) => ?_) (fun (q17 : e.toInt < s.toInt) => ?_)
    · exact absurd q17 (by omega)
    · refine mc_cx hmi 4 (F' := (43, [(0, .ref 542), (1, .ref 571), (2, .int f), (3, .int s), (4, .int k), (5, .int w), (6, .int hd), (7, .int cp), (8, .int at'), (9, .int ph), (10, .int x), (11, .int e)], [.int (f + e), .ref 571], h, n, 0, 0)) (by with_unfolding_all rfl) ?_
      have e18 : (f + e).toInt = 0 + e.toInt := mc_add hf rfl (by omega) (by omega)
      refine mc_iald hmi H (k := 571) (i := (0 + e.toInt)) (pc' := 44) rfl rfl rfl e18 (by omega) (by omega) rfl (fun y19 e20 r21 r22 => ?_)
      rw [e20] at r21 r22
      refine mc_cx hmi 1 (F' := (46, [(0, .ref 542), (1, .ref 571), (2, .int f), (3, .int s), (4, .int k), (5, .int w), (6, .int hd), (7, .int cp), (8, .int at'), (9, .int ph), (10, .int x), (11, .int e)], [.int x, .int y19], h, n, 0, 0)) (by with_unfolding_all rfl) ?_
      rw [Int.zero_add] at *
      refine mc_ci hmi (c := .ne) (tg := 55) (pc' := 49) rfl rfl rfl e20 rfl (fun (q23 : ab_ri h 571 e.toInt ≠ x.toInt) => ?_) (fun (q23 : ab_ri h 571 e.toInt = x.toInt) => ?_)
      · exact kk e (hae.elim (fun q => q) (fun q => absurd q.2.2 q23)) (by omega) hrun (Or.inr q23)
      · refine mc_cx hmi 2 (F' := (32, [(11, .int (e + Int32.ofInt 1)), (0, .ref 542), (1, .ref 571), (2, .int f), (3, .int s), (4, .int k), (5, .int w), (6, .int hd), (7, .int cp), (8, .int at'), (9, .int ph), (10, .int x)], [], h, n, 0, 0)) (by with_unfolding_all rfl) ?_
        have e24 : (e + Int32.ofInt 1).toInt = e.toInt + 1 := mc_add rfl (by decide) (by omega) (by omega)
        refine mc_lvs (lv' := [(0, .ref 542), (1, .ref 571), (2, .int f), (3, .int s), (4, .int k), (5, .int w), (6, .int hd), (7, .int cp), (8, .int at'), (9, .int ph), (10, .int x), (11, .int (e + Int32.ofInt 1))]) (by simp) ?_
        refine ih (e + Int32.ofInt 1) (by rw [e24]; omega) (Or.inl (by rw [e24]; omega)) ha0 (fun j h1 h2 => ?_)
        rw [e24] at h2
        by_cases ej : j = e.toInt
        · rw [ej]; exact q23
        · exact hrun j h1 (by omega)
set_option maxRecDepth 100000 in
theorem ka_a {l : Launch} {G : ax_T} {d : Nat} {h : ax_H} {n : Nat} (hd0 : 2 ≤ d) (H : mc_HW h n) (f s k w : Int32) (hf : f.toInt = 0) (hs : s.toInt ≤ 21) (hk0 : 0 ≤ k.toInt) (hk1 : k.toInt ≤ 5) (h13 : ∀ j : Int, 0 ≤ j → j < s.toInt → 0 ≤ ab_ri h 571 j ∧ ab_ri h 571 j ≤ 13) : ∀ (c : Nat) (hd cp at' ph : Int32), (s.toInt - at'.toInt).toNat ≤ c → 0 ≤ at'.toInt → at'.toInt ≤ s.toInt → 0 ≤ hd.toInt → hd.toInt ≤ 13 → (ka_K (ab_ri h 571) s.toInt at'.toInt ∨ (cp.toInt = 0 ∧ at'.toInt < s.toInt)) → mc_R l G mt_X11_keepsAll d (mc_P h n (ka_Q (ab_ri h 571) s.toInt w.toInt)) (14, [(0, .ref 542), (1, .ref 571), (2, .int f), (3, .int s), (4, .int k), (5, .int w), (6, .int hd), (7, .int cp), (8, .int at'), (9, .int ph)], [], h, n, 0, 0) := by
  have hmi : mt_X11_keepsAll ∈ mt_prog := List.mem_of_getElem? mi_X11_keepsAll
  intro c
  induction c with
  | zero =>
    intro hd cp at' ph hc ha0 has hh0 hh1 hinv
    refine mc_cx hmi 2 (F' := (17, [(0, .ref 542), (1, .ref 571), (2, .int f), (3, .int s), (4, .int k), (5, .int w), (6, .int hd), (7, .int cp), (8, .int at'), (9, .int ph)], [.int s, .int at'], h, n, 0, 0)) (by with_unfolding_all rfl) ?_
    refine mc_ci hmi (c := .ge) (tg := 240) (pc' := 20) rfl rfl rfl rfl rfl (fun (q25 : s.toInt ≤ at'.toInt) => ?_) (fun (q25 : at'.toInt < s.toInt) => ?_)
    · refine mc_cx hmi 1 (F' := (241, [(0, .ref 542), (1, .ref 571), (2, .int f), (3, .int s), (4, .int k), (5, .int w), (6, .int hd), (7, .int cp), (8, .int at'), (9, .int ph)], [.int (Int32.ofInt 1)], h, n, 0, 0)) (by with_unfolding_all rfl) ?_
      refine mc_ret hmi rfl rfl rfl ⟨rfl, rfl, _, rfl, Or.inr (by decide), fun _ _ => ?_⟩
      rcases hinv with hinv | hinv
      · intro p q p0 p1 p2 p3 p4; exact hinv p q p0 (by omega) p2 p3 p4
      · exact absurd hinv.2 (by omega)
    · exact absurd q25 (by omega)
  | succ c ih =>
    intro hd cp at' ph hc ha0 has hh0 hh1 hinv
    refine mc_cx hmi 2 (F' := (17, [(0, .ref 542), (1, .ref 571), (2, .int f), (3, .int s), (4, .int k), (5, .int w), (6, .int hd), (7, .int cp), (8, .int at'), (9, .int ph)], [.int s, .int at'], h, n, 0, 0)) (by with_unfolding_all rfl) ?_
    refine mc_ci hmi (c := .ge) (tg := 240) (pc' := 20) rfl rfl rfl rfl rfl (fun (q26 : s.toInt ≤ at'.toInt) => ?_) (fun (q26 : at'.toInt < s.toInt) => ?_)
    · refine mc_cx hmi 1 (F' := (241, [(0, .ref 542), (1, .ref 571), (2, .int f), (3, .int s), (4, .int k), (5, .int w), (6, .int hd), (7, .int cp), (8, .int at'), (9, .int ph)], [.int (Int32.ofInt 1)], h, n, 0, 0)) (by with_unfolding_all rfl) ?_
      refine mc_ret hmi rfl rfl rfl ⟨rfl, rfl, _, rfl, Or.inr (by decide), fun _ _ => ?_⟩
      rcases hinv with hinv | hinv
      · intro p q p0 p1 p2 p3 p4; exact hinv p q p0 (by omega) p2 p3 p4
      · exact absurd hinv.2 (by omega)
    · refine mc_cx hmi 4 (F' := (25, [(0, .ref 542), (1, .ref 571), (2, .int f), (3, .int s), (4, .int k), (5, .int w), (6, .int hd), (7, .int cp), (8, .int at'), (9, .int ph)], [.int (f + at'), .ref 571], h, n, 0, 0)) (by with_unfolding_all rfl) ?_
      have e27 : (f + at').toInt = 0 + at'.toInt := mc_add hf rfl (by omega) (by omega)
      refine mc_iald hmi H (k := 571) (i := (0 + at'.toInt)) (pc' := 26) rfl rfl rfl e27 (by omega) (by omega) rfl (fun y28 e29 r30 r31 => ?_)
      rw [e29] at r30 r31
      refine mc_cx hmi 3 (F' := (32, [(11, .int at'), (10, .int y28), (0, .ref 542), (1, .ref 571), (2, .int f), (3, .int s), (4, .int k), (5, .int w), (6, .int hd), (7, .int cp), (8, .int at'), (9, .int ph)], [], h, n, 0, 0)) (by with_unfolding_all rfl) ?_
      rw [Int.zero_add] at *
      have hy13 := h13 at'.toInt ha0 q26
      refine mc_lvs (lv' := [(0, .ref 542), (1, .ref 571), (2, .int f), (3, .int s), (4, .int k), (5, .int w), (6, .int hd), (7, .int cp), (8, .int at'), (9, .int ph), (10, .int y28), (11, .int at')]) (by simp) ?_
      refine ka_b hd0 H f s k w hf hs hk0 hk1 h13 hd cp at' ph y28 (fun e e1 e2 e3 e4 => ?_) (s.toInt - at'.toInt).toNat at' (by omega) (Or.inr ⟨rfl, q26, e29.symm⟩) ha0 (fun j h1 h2 => absurd h1 (by omega))
      have hyr : 0 ≤ y28.toInt ∧ y28.toInt ≤ 13 := by rw [e29]; exact hy13
      refine mc_cx hmi 6 (F' := (66, [(12, .int (e - at')), (0, .ref 542), (1, .ref 571), (2, .int f), (3, .int s), (4, .int k), (5, .int w), (6, .int hd), (7, .int cp), (8, .int at'), (9, .int ph), (10, .int y28), (11, .int e)], [.int cp, .int y28], h, n, 0, 0)) (by with_unfolding_all rfl) ?_
      have e32 : (e - at').toInt = e.toInt - at'.toInt := mc_sub rfl rfl (by omega) (by omega)
      refine mc_ci hmi (c := .lt) (tg := 71) (pc' := 69) rfl rfl rfl rfl rfl (fun (q33 : y28.toInt < cp.toInt) => ?_) (fun (q33 : cp.toInt ≤ y28.toInt) => ?_)
      · have hK : ka_K (ab_ri h 571) s.toInt at'.toInt := by
          rcases hinv with hinv | hinv
          · exact hinv
          · exact absurd hinv.1 (by omega)
        have plain : (s.toInt ≤ e.toInt ∨ ab_ri h 571 e.toInt ≤ y28.toInt) → mc_R l G mt_X11_keepsAll d (mc_P h n (ka_Q (ab_ri h 571) s.toInt w.toInt)) (147, [(12, .int (e - at')), (0, .ref 542), (1, .ref 571), (2, .int f), (3, .int s), (4, .int k), (5, .int w), (6, .int hd), (7, .int cp), (8, .int at'), (9, .int ph), (10, .int y28), (11, .int e)], [], h, n, 0, 0) := by
          intro hpl
          have go : ∀ u : Int32, mc_R l G mt_X11_keepsAll d (mc_P h n (ka_Q (ab_ri h 571) s.toInt w.toInt)) (225, [(12, .int (e - at')), (0, .ref 542), (1, .ref 571), (2, .int f), (3, .int s), (4, .int k), (5, .int w), (6, .int hd), (7, .int cp), (8, .int at'), (9, .int ph), (10, .int y28), (11, .int e), (13, .int u)], [], h, n, 0, 0) := by
            intro u
            refine mc_cx hmi 7 (F' := (14, [(8, .int e), (9, .int y28), (6, .int y28), (12, .int (e - at')), (0, .ref 542), (1, .ref 571), (2, .int f), (3, .int s), (4, .int k), (5, .int w), (7, .int cp), (10, .int y28), (11, .int e), (13, .int u)], [], h, n, 0, 0)) (by with_unfolding_all rfl) ?_
            refine mc_lvs (lv' := [(0, .ref 542), (1, .ref 571), (2, .int f), (3, .int s), (4, .int k), (5, .int w), (6, .int y28), (7, .int cp), (8, .int e), (9, .int y28)]) (by simp) ?_
            refine ih y28 cp e y28 (by omega) (by omega) e2 hyr.1 hyr.2 (Or.inl ?_)
            intro p q p0 p1 p2 p3 p4
            by_cases hp : p < at'.toInt
            · exact hK p q p0 hp p2 p3 p4
            · have hx := e3 p (by omega) p1
              have hx0 : y28.toInt = 0 := by omega
              rcases hpl with hpl | hpl
              · rw [e3 q (by omega) (by omega)]; exact hx0
              · rcases e4 with e4 | e4
                · rw [e3 q (by omega) (by omega)]; exact hx0
                · by_cases hes : e.toInt < s.toInt
                  · have := (h13 e.toInt (by omega) hes).1
                    exact absurd (show ab_ri h 571 e.toInt = y28.toInt by omega) e4
                  · rw [e3 q (by omega) (by omega)]; exact hx0
          have at184 : ∀ u : Int32, mc_R l G mt_X11_keepsAll d (mc_P h n (ka_Q (ab_ri h 571) s.toInt w.toInt)) (184, [(12, .int (e - at')), (0, .ref 542), (1, .ref 571), (2, .int f), (3, .int s), (4, .int k), (5, .int w), (6, .int hd), (7, .int cp), (8, .int at'), (9, .int ph), (10, .int y28), (11, .int e)], [.int u], h, n, 0, 0) := by
            intro u
            refine mc_cx hmi 2 (F' := (188, [(13, .int u), (12, .int (e - at')), (0, .ref 542), (1, .ref 571), (2, .int f), (3, .int s), (4, .int k), (5, .int w), (6, .int hd), (7, .int cp), (8, .int at'), (9, .int ph), (10, .int y28), (11, .int e)], [.int u], h, n, 0, 0)) (by with_unfolding_all rfl) ?_
            refine mc_cz hmi (c := .ne) (tg := 225) (pc' := 191) rfl rfl rfl rfl (fun (q34 : u.toInt ≠ 0) => ?_) (fun (q34 : u.toInt = 0) => ?_)
            · refine mc_lvs (lv' := [(12, .int (e - at')), (0, .ref 542), (1, .ref 571), (2, .int f), (3, .int s), (4, .int k), (5, .int w), (6, .int hd), (7, .int cp), (8, .int at'), (9, .int ph), (10, .int y28), (11, .int e), (13, .int u)]) (by simp) ?_
              exact go u
            · have no : mc_R l G mt_X11_keepsAll d (mc_P h n (ka_Q (ab_ri h 571) s.toInt w.toInt)) (223, [(13, .int u), (12, .int (e - at')), (0, .ref 542), (1, .ref 571), (2, .int f), (3, .int s), (4, .int k), (5, .int w), (6, .int hd), (7, .int cp), (8, .int at'), (9, .int ph), (10, .int y28), (11, .int e)], [], h, n, 0, 0) := by
                refine mc_cx hmi 1 (F' := (224, [(13, .int u), (12, .int (e - at')), (0, .ref 542), (1, .ref 571), (2, .int f), (3, .int s), (4, .int k), (5, .int w), (6, .int hd), (7, .int cp), (8, .int at'), (9, .int ph), (10, .int y28), (11, .int e)], [.int (Int32.ofInt 0)], h, n, 0, 0)) (by with_unfolding_all rfl) ?_
                exact mc_ret hmi rfl rfl rfl ⟨rfl, rfl, _, rfl, ka_0 (by decide)⟩
              refine mc_cx hmi 1 (F' := (193, [(13, .int u), (12, .int (e - at')), (0, .ref 542), (1, .ref 571), (2, .int f), (3, .int s), (4, .int k), (5, .int w), (6, .int hd), (7, .int cp), (8, .int at'), (9, .int ph), (10, .int y28), (11, .int e)], [.int w], h, n, 0, 0)) (by with_unfolding_all rfl) ?_
              refine mc_cz hmi (c := .ne) (tg := 223) (pc' := 196) rfl rfl rfl rfl (fun (q35 : w.toInt ≠ 0) => ?_) (fun (q35 : w.toInt = 0) => ?_)
              · exact no
              · refine mc_cx hmi 2 (F' := (199, [(13, .int u), (12, .int (e - at')), (0, .ref 542), (1, .ref 571), (2, .int f), (3, .int s), (4, .int k), (5, .int w), (6, .int hd), (7, .int cp), (8, .int at'), (9, .int ph), (10, .int y28), (11, .int e)], [.int s, .int e], h, n, 0, 0)) (by with_unfolding_all rfl) ?_
                refine mc_ci hmi (c := .ne) (tg := 223) (pc' := 202) rfl rfl rfl rfl rfl (fun (q36 : e.toInt ≠ s.toInt) => ?_) (fun (q36 : e.toInt = s.toInt) => ?_)
                · exact no
                · refine mc_cx hmi 6 (F' := (213, [(13, .int u), (12, .int (e - at')), (0, .ref 542), (1, .ref 571), (2, .int f), (3, .int s), (4, .int k), (5, .int w), (6, .int hd), (7, .int cp), (8, .int at'), (9, .int ph), (10, .int y28), (11, .int e)], [.int cp, .int hd, .int (e - at'), .int y28, .int k, .ref 542], h, n, 0, 0)) (by with_unfolding_all rfl) ?_
                  refine mc_callP hmi (en := (213, .invokevirtual 158, 3, (3, 170, 11, 0), [1346, 82, 1344])) rfl (q := (mt_X11_mayBegin, [.ref 542, .int k, .int y28, .int (e - at'), .int hd, .int cp], [])) (mc_inv H (as := [.int k, .int y28, .int (e - at'), .int hd, .int cp]) (rest := []) rfl (by with_unfolding_all rfl) rfl rfl rfl) ⟨rfl, rfl⟩ (pc' := 216) rfl (mc_mayBegin (by omega) H k y28 (e - at') hd cp hk0 hk1 hyr.1 hyr.2) (fun y37 e38 => ?_)
                  refine mc_cz hmi (c := .eq) (tg := 223) (pc' := 219) rfl rfl rfl rfl (fun (q39 : y37.toInt = 0) => ?_) (fun (q39 : y37.toInt ≠ 0) => ?_)
                  · exact no
                  · refine mc_cx hmi 2 (F' := (224, [(13, .int u), (12, .int (e - at')), (0, .ref 542), (1, .ref 571), (2, .int f), (3, .int s), (4, .int k), (5, .int w), (6, .int hd), (7, .int cp), (8, .int at'), (9, .int ph), (10, .int y28), (11, .int e)], [.int (Int32.ofInt 1)], h, n, 0, 0)) (by with_unfolding_all rfl) ?_
                    exact mc_ret hmi rfl rfl rfl ⟨rfl, rfl, _, rfl, Or.inr (by decide), fun _ q => absurd q35 q⟩
          have no183 : mc_R l G mt_X11_keepsAll d (mc_P h n (ka_Q (ab_ri h 571) s.toInt w.toInt)) (183, [(12, .int (e - at')), (0, .ref 542), (1, .ref 571), (2, .int f), (3, .int s), (4, .int k), (5, .int w), (6, .int hd), (7, .int cp), (8, .int at'), (9, .int ph), (10, .int y28), (11, .int e)], [], h, n, 0, 0) := by
            refine mc_cx hmi 1 (F' := (184, [(12, .int (e - at')), (0, .ref 542), (1, .ref 571), (2, .int f), (3, .int s), (4, .int k), (5, .int w), (6, .int hd), (7, .int cp), (8, .int at'), (9, .int ph), (10, .int y28), (11, .int e)], [.int (Int32.ofInt 0)], h, n, 0, 0)) (by with_unfolding_all rfl) ?_
            exact at184 _
          refine mc_cx hmi 2 (F' := (151, [(12, .int (e - at')), (0, .ref 542), (1, .ref 571), (2, .int f), (3, .int s), (4, .int k), (5, .int w), (6, .int hd), (7, .int cp), (8, .int at'), (9, .int ph), (10, .int y28), (11, .int e)], [.int hd, .int y28], h, n, 0, 0)) (by with_unfolding_all rfl) ?_
          refine mc_ci hmi (c := .gt) (tg := 183) (pc' := 154) rfl rfl rfl rfl rfl (fun (q40 : hd.toInt < y28.toInt) => ?_) (fun (q40 : y28.toInt ≤ hd.toInt) => ?_)
          · exact no183
          · refine mc_cx hmi 2 (F' := (158, [(12, .int (e - at')), (0, .ref 542), (1, .ref 571), (2, .int f), (3, .int s), (4, .int k), (5, .int w), (6, .int hd), (7, .int cp), (8, .int at'), (9, .int ph), (10, .int y28), (11, .int e)], [.int ph, .int y28], h, n, 0, 0)) (by with_unfolding_all rfl) ?_
            refine mc_ci hmi (c := .eq) (tg := 183) (pc' := 161) rfl rfl rfl rfl rfl (fun (q41 : y28.toInt = ph.toInt) => ?_) (fun (q41 : y28.toInt ≠ ph.toInt) => ?_)
            · exact no183
            · refine mc_cx hmi 2 (F' := (164, [(12, .int (e - at')), (0, .ref 542), (1, .ref 571), (2, .int f), (3, .int s), (4, .int k), (5, .int w), (6, .int hd), (7, .int cp), (8, .int at'), (9, .int ph), (10, .int y28), (11, .int e)], [.ref 542, .int (e - at')], h, n, 0, 0)) (by with_unfolding_all rfl) ?_
              refine mc_getr hmi H (k := 542) (c := 546) (pc' := 167) rfl rfl rfl rfl rfl ?_
              refine mc_cx hmi 5 (F' := (175, [(12, .int (e - at')), (0, .ref 542), (1, .ref 571), (2, .int f), (3, .int s), (4, .int k), (5, .int w), (6, .int hd), (7, .int cp), (8, .int at'), (9, .int ph), (10, .int y28), (11, .int e)], [.int (((Int8.ofInt 14).toInt32 * k) + y28), .ref 546, .int (e - at')], h, n, 0, 0)) (by with_unfolding_all rfl) ?_
              have e42 : ((Int8.ofInt 14).toInt32 * k).toInt = 14 * k.toInt := mc_mul (by decide) rfl (by omega) (by omega)
              have e43 : (((Int8.ofInt 14).toInt32 * k) + y28).toInt = (14 * k.toInt) + y28.toInt := mc_add e42 rfl (by omega) (by omega)
              refine mc_iald hmi H (k := 546) (i := ((14 * k.toInt) + y28.toInt)) (pc' := 176) rfl rfl rfl e43 (by omega) (by omega) rfl (fun y44 e45 r46 r47 => ?_)
              rw [e45] at r46 r47
              refine mc_ci hmi (c := .gt) (tg := 183) (pc' := 179) rfl rfl rfl e32 e45 (fun (q48 : ab_ri h 546 (((14 * k.toInt) + y28.toInt)) < (e.toInt - at'.toInt)) => ?_) (fun (q48 : (e.toInt - at'.toInt) ≤ ab_ri h 546 (((14 * k.toInt) + y28.toInt))) => ?_)
              · exact no183
              · refine mc_cx hmi 2 (F' := (184, [(12, .int (e - at')), (0, .ref 542), (1, .ref 571), (2, .int f), (3, .int s), (4, .int k), (5, .int w), (6, .int hd), (7, .int cp), (8, .int at'), (9, .int ph), (10, .int y28), (11, .int e)], [.int (Int32.ofInt 1)], h, n, 0, 0)) (by with_unfolding_all rfl) ?_
                exact at184 _
        refine mc_cx hmi 2 (F' := (74, [(12, .int (e - at')), (0, .ref 542), (1, .ref 571), (2, .int f), (3, .int s), (4, .int k), (5, .int w), (6, .int hd), (7, .int cp), (8, .int at'), (9, .int ph), (10, .int y28), (11, .int e)], [.int s, .int e], h, n, 0, 0)) (by with_unfolding_all rfl) ?_
        refine mc_ci hmi (c := .ge) (tg := 147) (pc' := 77) rfl rfl rfl rfl rfl (fun (q49 : s.toInt ≤ e.toInt) => ?_) (fun (q49 : e.toInt < s.toInt) => ?_)
        · exact plain (Or.inl q49)
        · refine mc_cx hmi 4 (F' := (82, [(12, .int (e - at')), (0, .ref 542), (1, .ref 571), (2, .int f), (3, .int s), (4, .int k), (5, .int w), (6, .int hd), (7, .int cp), (8, .int at'), (9, .int ph), (10, .int y28), (11, .int e)], [.int (f + e), .ref 571], h, n, 0, 0)) (by with_unfolding_all rfl) ?_
          have e50 : (f + e).toInt = 0 + e.toInt := mc_add hf rfl (by omega) (by omega)
          refine mc_iald hmi H (k := 571) (i := (0 + e.toInt)) (pc' := 83) rfl rfl rfl e50 (by omega) (by omega) rfl (fun y51 e52 r53 r54 => ?_)
          rw [e52] at r53 r54
          refine mc_cx hmi 1 (F' := (85, [(12, .int (e - at')), (0, .ref 542), (1, .ref 571), (2, .int f), (3, .int s), (4, .int k), (5, .int w), (6, .int hd), (7, .int cp), (8, .int at'), (9, .int ph), (10, .int y28), (11, .int e)], [.int y28, .int y51], h, n, 0, 0)) (by with_unfolding_all rfl) ?_
          rw [Int.zero_add] at *
          refine mc_ci hmi (c := .le) (tg := 147) (pc' := 88) rfl rfl rfl e52 rfl (fun (q55 : ab_ri h 571 e.toInt ≤ y28.toInt) => ?_) (fun (q55 : y28.toInt < ab_ri h 571 e.toInt) => ?_)
          · exact plain (Or.inr q55)
          · refine mc_cx hmi 4 (F' := (93, [(12, .int (e - at')), (0, .ref 542), (1, .ref 571), (2, .int f), (3, .int s), (4, .int k), (5, .int w), (6, .int hd), (7, .int cp), (8, .int at'), (9, .int ph), (10, .int y28), (11, .int e)], [.int (f + e), .ref 571], h, n, 0, 0)) (by with_unfolding_all rfl) ?_
            have e56 : (f + e).toInt = 0 + e.toInt := mc_add hf rfl (by omega) (by omega)
            refine mc_iald hmi H (k := 571) (i := (0 + e.toInt)) (pc' := 94) rfl rfl rfl e56 (by omega) (by omega) rfl (fun y57 e58 r59 r60 => ?_)
            rw [e58] at r59 r60
            refine mc_cx hmi 3 (F' := (100, [(13, .int y57), (12, .int (e - at')), (0, .ref 542), (1, .ref 571), (2, .int f), (3, .int s), (4, .int k), (5, .int w), (6, .int hd), (7, .int cp), (8, .int at'), (9, .int ph), (10, .int y28), (11, .int e)], [.int cp, .int y57], h, n, 0, 0)) (by with_unfolding_all rfl) ?_
            rw [Int.zero_add] at *
            have no : mc_R l G mt_X11_keepsAll d (mc_P h n (ka_Q (ab_ri h 571) s.toInt w.toInt)) (125, [(13, .int y57), (12, .int (e - at')), (0, .ref 542), (1, .ref 571), (2, .int f), (3, .int s), (4, .int k), (5, .int w), (6, .int hd), (7, .int cp), (8, .int at'), (9, .int ph), (10, .int y28), (11, .int e)], [], h, n, 0, 0) := by
              refine mc_cx hmi 1 (F' := (126, [(13, .int y57), (12, .int (e - at')), (0, .ref 542), (1, .ref 571), (2, .int f), (3, .int s), (4, .int k), (5, .int w), (6, .int hd), (7, .int cp), (8, .int at'), (9, .int ph), (10, .int y28), (11, .int e)], [.int (Int32.ofInt 0)], h, n, 0, 0)) (by with_unfolding_all rfl) ?_
              exact mc_ret hmi rfl rfl rfl ⟨rfl, rfl, _, rfl, ka_0 (by decide)⟩
            refine mc_ci hmi (c := .ge) (tg := 125) (pc' := 103) rfl rfl rfl e58 rfl (fun (q61 : cp.toInt ≤ ab_ri h 571 e.toInt) => ?_) (fun (q61 : ab_ri h 571 e.toInt < cp.toInt) => ?_)
            · exact no
            · refine mc_cx hmi 2 (F' := (107, [(13, .int y57), (12, .int (e - at')), (0, .ref 542), (1, .ref 571), (2, .int f), (3, .int s), (4, .int k), (5, .int w), (6, .int hd), (7, .int cp), (8, .int at'), (9, .int ph), (10, .int y28), (11, .int e)], [.int hd, .int y57], h, n, 0, 0)) (by with_unfolding_all rfl) ?_
              refine mc_ci hmi (c := .gt) (tg := 125) (pc' := 110) rfl rfl rfl e58 rfl (fun (q62 : hd.toInt < ab_ri h 571 e.toInt) => ?_) (fun (q62 : ab_ri h 571 e.toInt ≤ hd.toInt) => ?_)
              · exact no
              · refine mc_cx hmi 5 (F' := (119, [(13, .int y57), (12, .int (e - at')), (0, .ref 542), (1, .ref 571), (2, .int f), (3, .int s), (4, .int k), (5, .int w), (6, .int hd), (7, .int cp), (8, .int at'), (9, .int ph), (10, .int y28), (11, .int e)], [.int (e - at'), .int y57, .int y28, .int k, .ref 542], h, n, 0, 0)) (by with_unfolding_all rfl) ?_
                refine mc_callP hmi (en := (119, .invokevirtual 154, 3, (3, 169, 11, 0), [1342, 81, 1340])) rfl (q := (mt_X11_mayTake, [.ref 542, .int k, .int y28, .int y57, .int (e - at')], [])) (mc_inv H (as := [.int k, .int y28, .int y57, .int (e - at')]) (rest := []) rfl (by with_unfolding_all rfl) rfl rfl rfl) ⟨rfl, rfl⟩ (pc' := 122) rfl (mc_mayTake (by omega) H k y28 y57 (e - at') hk0 hk1 hyr.1 hyr.2) (fun y63 e64 => ?_)
                refine mc_cz hmi (c := .ne) (tg := 127) (pc' := 125) rfl rfl rfl rfl (fun (q65 : y63.toInt ≠ 0) => ?_) (fun (q65 : y63.toInt = 0) => ?_)
                · refine mc_cx hmi 12 (F' := (14, [(8, .int (e + (Int32.ofInt 1))), (9, .int (Int32.ofInt (-1))), (7, .int y28), (6, .int y28), (13, .int y57), (12, .int (e - at')), (0, .ref 542), (1, .ref 571), (2, .int f), (3, .int s), (4, .int k), (5, .int w), (10, .int y28), (11, .int e)], [], h, n, 0, 0)) (by with_unfolding_all rfl) ?_
                  have e66 : (e + (Int32.ofInt 1)).toInt = e.toInt + 1 := mc_add rfl (by decide) (by omega) (by omega)
                  refine mc_lvs (lv' := [(0, .ref 542), (1, .ref 571), (2, .int f), (3, .int s), (4, .int k), (5, .int w), (6, .int y28), (7, .int y28), (8, .int (e + (Int32.ofInt 1))), (9, .int (Int32.ofInt (-1)))]) (by simp) ?_
                  refine ih y28 y28 (e + (Int32.ofInt 1)) (Int32.ofInt (-1)) (by rw [e66]; omega) (by rw [e66]; omega) (by rw [e66]; omega) hyr.1 hyr.2 ?_
                  rw [e66]
                  by_cases hz : y28.toInt = 0 ∧ e.toInt + 1 < s.toInt
                  · exact Or.inr hz
                  · refine Or.inl ?_
                    intro p q p0 p1 p2 p3 p4
                    by_cases hp : p < at'.toInt
                    · exact hK p q p0 hp p2 p3 p4
                    · by_cases hpe : p = e.toInt
                      · rw [hpe] at p4
                        omega
                      · have hx := e3 p (by omega) (by omega)
                        have hx0 : y28.toInt = 0 := by omega
                        rw [e3 q (by omega) (by omega)]; exact hx0
                · exact no
      · refine mc_cx hmi 1 (F' := (70, [(12, .int (e - at')), (0, .ref 542), (1, .ref 571), (2, .int f), (3, .int s), (4, .int k), (5, .int w), (6, .int hd), (7, .int cp), (8, .int at'), (9, .int ph), (10, .int y28), (11, .int e)], [.int (Int32.ofInt 0)], h, n, 0, 0)) (by with_unfolding_all rfl) ?_
        exact mc_ret hmi rfl rfl rfl ⟨rfl, rfl, _, rfl, ka_0 (by decide)⟩
set_option maxRecDepth 100000 in
theorem mc_keepsAll {l : Launch} {G : ax_T} {d : Nat} {h : ax_H} {n : Nat} (hd0 : 3 ≤ d) (H : mc_HW h n) (f s k w : Int32) (hf : f.toInt = 0) (hs0 : 0 ≤ s.toInt) (hs : s.toInt ≤ 21) (hk0 : 0 ≤ k.toInt) (hk1 : k.toInt ≤ 5) (h13 : ∀ j : Int, 0 ≤ j → j < s.toInt → 0 ≤ ab_ri h 571 j ∧ ab_ri h 571 j ≤ 13) : mc_M l G d mt_X11_keepsAll [.ref 542, .ref 571, .int f, .int s, .int k, .int w] h n (mc_P h n (ka_Q (ab_ri h 571) s.toInt w.toInt)) := by
  obtain ⟨d, rfl⟩ : ∃ e, d = e + 1 := ⟨d - 1, by omega⟩
  have hmi : mt_X11_keepsAll ∈ mt_prog := List.mem_of_getElem? mi_X11_keepsAll
  refine mc_to hmi rfl ?_
  show mc_R _ _ _ _ _ (0, [(0, .ref 542), (1, .ref 571), (2, .int f), (3, .int s), (4, .int k), (5, .int w)], [], h, n, 0, 0)
  refine mc_cx hmi 8 (F' := (14, [(9, .int (Int32.ofInt (-1))), (8, .int (Int32.ofInt 0)), (7, .int (Int8.ofInt 14).toInt32), (6, .int (Int8.ofInt 13).toInt32), (0, .ref 542), (1, .ref 571), (2, .int f), (3, .int s), (4, .int k), (5, .int w)], [], h, n, 0, 0)) (by with_unfolding_all rfl) ?_
  refine mc_lvs (lv' := [(0, .ref 542), (1, .ref 571), (2, .int f), (3, .int s), (4, .int k), (5, .int w), (6, .int (Int8.ofInt 13).toInt32), (7, .int (Int8.ofInt 14).toInt32), (8, .int (Int32.ofInt 0)), (9, .int (Int32.ofInt (-1)))]) (by simp) ?_
  exact ka_a (by omega) H f s k w hf hs hk0 hk1 h13 s.toInt.toNat (Int8.ofInt 13).toInt32 (Int8.ofInt 14).toInt32 (Int32.ofInt 0) (Int32.ofInt (-1)) (by show (s.toInt - 0).toNat ≤ _; omega) (by decide) hs0 (by decide) (by decide) (Or.inl (fun p q p0 p1 => absurd p1 (by show ¬ p < 0; omega)))
