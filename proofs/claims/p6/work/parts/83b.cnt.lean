/-! ===== line and tear: the count of lines, exactly (printed by wip/v2/mk83.py) ===== -/
section LN
variable {l : Launch} {G : ax_T} {h : ax_H} {n : Nat} {Q : ab_Q} {mi : ax_MI} {Γ : List ab_Y} {vs : List ab_V} {V as : List Value} {prog : List ax_MI} {C : List (Nat × Nat × Int)} {F : List (ab_V × ab_V × ab_V)}
theorem pq_go (hQ : ab_QOk l G prog Q) (hmi : prog[Q.1]? = some mi) (hd : Nat.ble Q.2.1 40 = true) (hp : Q.2.2.1 = (ab_args Γ 0 vs, [], Γ, C, F, [], 0, 0)) (hs : ab_stR V vs as) (hΓ : ab_ty n V Γ) (hC : ab_co V C) (hF : ab_ca V h F) (hl : Nat.ble (ax_sum as) mi.2.2.2.1 = true) (hpo : Q.2.2.2.2.all pb_int = true) (hH : ab_HT h n) :
    ∃ (x : Int32) (h' : ax_H) (n' : Nat), ab_M l G 40 mi as h n (some (.int x), h', n') ∧ ab_HT h' n' ∧ ab_fr Q.2.2.2.1 n h h' ∧ ∃ P ∈ Q.2.2.2.2, ∃ V', ab_stR V' P.2.1 [.int x] ∧ ab_co V' P.2.2.2.1 ∧ ab_ca V' h' P.2.2.2.2.1 ∧ ab_ty n' V' P.2.2.1 ∧ ∀ (u : Nat) (v : Value), V[u]? = some v → V'[u]? = some v := by
  have hg : ab_g (V, h, n, Q.2.2.2.1) Q.2.2.1 V (lv_args 0 as) [] h n 0 0 := by
    rw [hp]
    exact ⟨ab_args_ok hΓ 0 hs, trivial, hΓ, hC, hF, fun q hq => (nomatch hq), ⟨rfl, rfl⟩, ⟨hH, fun k _ i _ => rfl, Nat.le_refl _⟩, fun u v hu => hu⟩
  obtain ⟨⟨r, h', n'⟩, hM, P, hP, V', c', s', hg'⟩ := hQ mi hmi 40 (by simpa [Nat.ble_eq] using hd) V as h n (by rw [ab_sl_sum]; simpa [Nat.ble_eq] using hl) hg
  obtain ⟨g1, g2, g3, g4, g5, g6, g7, g8, g9⟩ := hg'
  have hb := List.all_eq_true.mp hpo P hP
  have g2' := g2
  unfold pb_int at hb
  split at hb
  · rename_i a ha
    rw [ha] at g2
    obtain ⟨q, hq⟩ := Option.isSome_iff_exists.mp hb
    cases r with
    | none => exact g2.elim
    | some v =>
      obtain ⟨x, e, -⟩ := ab_iv_ok g3 hq g2.1
      subst e
      exact ⟨x, h', n', hM, g8.1, g8.2.1, P, hP, V', g2', g4, g5, g3, g9⟩
  · cases hb
theorem pq_rd {V' : List Value} {h' : ax_H} (q2 : ab_ca V' h' F) {k : Nat} {i : Int} {v : ab_V} {w : Value} (hm : (av_k k, av_c i, v) ∈ F) (hi : ab_rng i = true) (hw : ab_cv V' v = some w) : ab_rd h' k i = some w := by
  rcases q2 _ hm with ⟨kk, xx, ww, f1, f2, f3, f4⟩ | ⟨xx, yy, zz, f1, -⟩
  · have e1 : some (Value.ref k) = some (.ref kk) := f1
    cases e1
    have e2 : (bif ab_rng i then some (Value.int (Int32.ofInt i)) else none) = some (.int xx) := f2
    rw [hi] at e2
    have e2' : some (Value.int (Int32.ofInt i)) = some (.int xx) := e2
    cases e2'
    have e3 : ww = w := Option.some.inj (f3.symm.trans hw)
    subst e3
    rw [ab_rng_ok hi] at f4
    exact f4
  · have e1 : some (Value.ref k) = some (.int xx) := f1
    cases e1
theorem pb_f_nil {M : List (Nat × Int)} {h' : ax_H} (hf : ab_fr [] n h h') : pb_f M n h h' := fun k hk i _ _ => hf k hk i rfl
/-- a call ends with this int; some places stand -/
def ec_S (l : Launch) (G : ax_T) (mi : ax_MI) (as : List Value) (h : ax_H) (n : Nat) (M : List (Nat × Int)) (x : Int32) : Prop := ∃ (h' : ax_H) (n' : Nat), ab_M l G 40 mi as h n (some (.int x), h', n') ∧ ab_HT h' n' ∧ pb_f M n h h'
def ln_X (a t c : Int32) : Int32 := if (0 ≤ a.toInt ∧ a.toInt ≤ 11) ∧ 0 ≤ t.toInt ∧ t.toInt ≤ 11 then (if c.toInt = 20 then Int32.ofInt (-104) else Int32.ofInt (c.toInt + 1)) else Int32.ofInt (-101)
def ln_C (a t c : Int32) : Int32 := if (0 ≤ a.toInt ∧ a.toInt ≤ 11) ∧ 0 ≤ t.toInt ∧ t.toInt ≤ 11 then (if c.toInt = 20 then c else Int32.ofInt (c.toInt + 1)) else c
theorem tr_X10 (H : ab_Hand l G) (hH : ab_HT h n) {c : Int32} (hc : ab_rd h 35 4 = some (.int c)) (h0 : 0 ≤ c.toInt) (h20 : c.toInt ≤ 20) : ∃ (h' : ax_H) (n' : Nat), ab_M l G 40 mt_X10_tear [.ref 0] h n (some (.int c), h', n') ∧ ab_HT h' n' ∧ ab_rd h' 35 4 = some (.int (Int32.ofInt 0)) ∧ pb_f nq_14.2.2.2.1 n h h' := by
  obtain ⟨x, h', n', hM, k1, kf, P, hP, V', q0, q1, q2, q3, q4⟩ := pq_go (Q := nq_14) (Γ := [.inl (0, 20, 0)]) (vs := [av_k 0]) (V := [.int c]) (as := [.ref 0]) (C := []) (F := [(av_k 35, av_c 4, av_s 0)]) (ny_48 H (222 + 14) nq_14 (by decide) rfl) mi_X10_tear rfl rfl ⟨rfl, trivial⟩ (pt_one h0 h20) (fun q hq => nomatch hq) (fun q hq => by rw [List.mem_singleton] at hq; subst hq; exact Or.inl ⟨35, Int32.ofInt 4, .int c, rfl, rfl, rfl, hc⟩) rfl rfl hH
  rw [show nq_14.2.2.2.2 = [nq_14.2.2.2.2.head (by decide)] from rfl, List.mem_singleton] at hP
  subst hP
  have e2 : some (Value.int x) = some (.int c) := q0.1.symm.trans (q4 0 _ rfl)
  cases e2
  exact ⟨h', n', hM, k1, pq_rd q2 (k := 35) (i := 4) (v := av_c 0) List.mem_cons_self rfl rfl, pb_f_of kf⟩
theorem tr_X11 (H : ab_Hand l G) (hH : ab_HT h n) {c : Int32} (hc : ab_rd h 542 20 = some (.int c)) (h0 : 0 ≤ c.toInt) (h20 : c.toInt ≤ 20) : ∃ (h' : ax_H) (n' : Nat), ab_M l G 40 mt_X11_tear [.ref 542] h n (some (.int c), h', n') ∧ ab_HT h' n' ∧ ab_rd h' 542 20 = some (.int (Int32.ofInt 0)) ∧ pb_f nq_15.2.2.2.1 n h h' := by
  obtain ⟨x, h', n', hM, k1, kf, P, hP, V', q0, q1, q2, q3, q4⟩ := pq_go (Q := nq_15) (Γ := [.inl (0, 20, 0)]) (vs := [av_k 542]) (V := [.int c]) (as := [.ref 542]) (C := []) (F := [(av_k 542, av_c 20, av_s 0)]) (ny_48 H (222 + 15) nq_15 (by decide) rfl) mi_X11_tear rfl rfl ⟨rfl, trivial⟩ (pt_one h0 h20) (fun q hq => nomatch hq) (fun q hq => by rw [List.mem_singleton] at hq; subst hq; exact Or.inl ⟨542, Int32.ofInt 20, .int c, rfl, rfl, rfl, hc⟩) rfl rfl hH
  rw [show nq_15.2.2.2.2 = [nq_15.2.2.2.2.head (by decide)] from rfl, List.mem_singleton] at hP
  subst hP
  have e2 : some (Value.int x) = some (.int c) := q0.1.symm.trans (q4 0 _ rfl)
  cases e2
  exact ⟨h', n', hM, k1, pq_rd q2 (k := 542) (i := 20) (v := av_c 0) List.mem_cons_self rfl rfl, pb_f_of kf⟩
theorem ln_X10 (H : ab_Hand l G) (hH : ab_HT h n) (a t : Int32) {c : Int32} (hc : ab_rd h 35 4 = some (.int c)) (h0 : 0 ≤ c.toInt) (h20 : c.toInt ≤ 20) : ∃ (h' : ax_H) (n' : Nat), ab_M l G 40 mt_X10_line [.ref 0, .int a, .int t] h n (some (.int (ln_X a t c)), h', n') ∧ ab_HT h' n' ∧ ab_rd h' 35 4 = some (.int (ln_C a t c)) ∧ pb_f nq_2.2.2.2.1 n h h' := by
  have ma := pt_min a
  have mt := pt_min t
  by_cases u0 : a.toInt < 0
  · obtain ⟨x, h', n', hM, k1, kf, P, hP, V', q0, q1, q2, q3, q4⟩ := pq_go (Q := nq_4) (Γ := [.inl ((-2147483648), (-1), 0), .inl ((-2147483648), 2147483647, 0)]) (vs := [av_k 0, av_s 0, av_s 1]) (V := [.int a, .int t]) (as := [.ref 0, .int a, .int t]) (C := []) (F := []) (ny_48 H (222 + 4) nq_4 (by decide) rfl) mi_X10_line rfl rfl ⟨rfl, rfl, rfl, trivial⟩ (pt_two (x := t) (lo := (-2147483648)) (hi := 2147483647) (by omega) (by omega) (pt_one (x := a) (lo := (-2147483648)) (hi := (-1)) (by omega) (by omega))) (fun q hq => nomatch hq) (fun q hq => nomatch hq) rfl rfl hH
    rw [show nq_4.2.2.2.2 = [nq_4.2.2.2.2.head (by decide)] from rfl, List.mem_singleton] at hP
    subst hP
    have e2 : some (Value.int (Int32.ofInt (-101))) = some (.int x) := q0.1
    cases e2
    have hr : ¬ ((0 ≤ a.toInt ∧ a.toInt ≤ 11) ∧ 0 ≤ t.toInt ∧ t.toInt ≤ 11) := by omega
    simp only [ln_X, ln_C, if_neg hr]
    exact ⟨h', n', hM, k1, (kf 35 (by have := hH.1; omega) 4 rfl).trans hc, pb_f_nil kf⟩
  by_cases u1 : 11 < a.toInt
  · obtain ⟨x, h', n', hM, k1, kf, P, hP, V', q0, q1, q2, q3, q4⟩ := pq_go (Q := nq_5) (Γ := [.inl (12, 2147483647, 0), .inl ((-2147483648), 2147483647, 0)]) (vs := [av_k 0, av_s 0, av_s 1]) (V := [.int a, .int t]) (as := [.ref 0, .int a, .int t]) (C := []) (F := []) (ny_48 H (222 + 5) nq_5 (by decide) rfl) mi_X10_line rfl rfl ⟨rfl, rfl, rfl, trivial⟩ (pt_two (x := t) (lo := (-2147483648)) (hi := 2147483647) (by omega) (by omega) (pt_one (x := a) (lo := 12) (hi := 2147483647) (by omega) (by omega))) (fun q hq => nomatch hq) (fun q hq => nomatch hq) rfl rfl hH
    rw [show nq_5.2.2.2.2 = [nq_5.2.2.2.2.head (by decide)] from rfl, List.mem_singleton] at hP
    subst hP
    have e2 : some (Value.int (Int32.ofInt (-101))) = some (.int x) := q0.1
    cases e2
    have hr : ¬ ((0 ≤ a.toInt ∧ a.toInt ≤ 11) ∧ 0 ≤ t.toInt ∧ t.toInt ≤ 11) := by omega
    simp only [ln_X, ln_C, if_neg hr]
    exact ⟨h', n', hM, k1, (kf 35 (by have := hH.1; omega) 4 rfl).trans hc, pb_f_nil kf⟩
  by_cases u2 : t.toInt < 0
  · obtain ⟨x, h', n', hM, k1, kf, P, hP, V', q0, q1, q2, q3, q4⟩ := pq_go (Q := nq_6) (Γ := [.inl (0, 11, 0), .inl ((-2147483648), (-1), 0)]) (vs := [av_k 0, av_s 0, av_s 1]) (V := [.int a, .int t]) (as := [.ref 0, .int a, .int t]) (C := []) (F := []) (ny_48 H (222 + 6) nq_6 (by decide) rfl) mi_X10_line rfl rfl ⟨rfl, rfl, rfl, trivial⟩ (pt_two (x := t) (lo := (-2147483648)) (hi := (-1)) (by omega) (by omega) (pt_one (x := a) (lo := 0) (hi := 11) (by omega) (by omega))) (fun q hq => nomatch hq) (fun q hq => nomatch hq) rfl rfl hH
    rw [show nq_6.2.2.2.2 = [nq_6.2.2.2.2.head (by decide)] from rfl, List.mem_singleton] at hP
    subst hP
    have e2 : some (Value.int (Int32.ofInt (-101))) = some (.int x) := q0.1
    cases e2
    have hr : ¬ ((0 ≤ a.toInt ∧ a.toInt ≤ 11) ∧ 0 ≤ t.toInt ∧ t.toInt ≤ 11) := by omega
    simp only [ln_X, ln_C, if_neg hr]
    exact ⟨h', n', hM, k1, (kf 35 (by have := hH.1; omega) 4 rfl).trans hc, pb_f_nil kf⟩
  by_cases u3 : 11 < t.toInt
  · obtain ⟨x, h', n', hM, k1, kf, P, hP, V', q0, q1, q2, q3, q4⟩ := pq_go (Q := nq_7) (Γ := [.inl (0, 11, 0), .inl (12, 2147483647, 0)]) (vs := [av_k 0, av_s 0, av_s 1]) (V := [.int a, .int t]) (as := [.ref 0, .int a, .int t]) (C := []) (F := []) (ny_48 H (222 + 7) nq_7 (by decide) rfl) mi_X10_line rfl rfl ⟨rfl, rfl, rfl, trivial⟩ (pt_two (x := t) (lo := 12) (hi := 2147483647) (by omega) (by omega) (pt_one (x := a) (lo := 0) (hi := 11) (by omega) (by omega))) (fun q hq => nomatch hq) (fun q hq => nomatch hq) rfl rfl hH
    rw [show nq_7.2.2.2.2 = [nq_7.2.2.2.2.head (by decide)] from rfl, List.mem_singleton] at hP
    subst hP
    have e2 : some (Value.int (Int32.ofInt (-101))) = some (.int x) := q0.1
    cases e2
    have hr : ¬ ((0 ≤ a.toInt ∧ a.toInt ≤ 11) ∧ 0 ≤ t.toInt ∧ t.toInt ≤ 11) := by omega
    simp only [ln_X, ln_C, if_neg hr]
    exact ⟨h', n', hM, k1, (kf 35 (by have := hH.1; omega) 4 rfl).trans hc, pb_f_nil kf⟩
  have hr : (0 ≤ a.toInt ∧ a.toInt ≤ 11) ∧ 0 ≤ t.toInt ∧ t.toInt ≤ 11 := by omega
  by_cases u5 : c.toInt = 20
  · have e5 : c = Int32.ofInt 20 := Int32.toInt_inj.mp (by rw [u5]; rfl)
    subst e5
    obtain ⟨x, h', n', hM, k1, kf, P, hP, V', q0, q1, q2, q3, q4⟩ := pq_go (Q := nq_3) (Γ := [.inl (0, 11, 0), .inl (0, 11, 0)]) (vs := [av_k 0, av_s 0, av_s 1]) (V := [.int a, .int t]) (as := [.ref 0, .int a, .int t]) (C := []) (F := [(av_k 35, av_c 4, av_c 20)]) (ny_48 H (222 + 3) nq_3 (by decide) rfl) mi_X10_line rfl rfl ⟨rfl, rfl, rfl, trivial⟩ (pt_two (x := t) (lo := 0) (hi := 11) (by omega) (by omega) (pt_one (x := a) (lo := 0) (hi := 11) (by omega) (by omega))) (fun q hq => nomatch hq) (fun q hq => by rw [List.mem_singleton] at hq; subst hq; exact Or.inl ⟨35, Int32.ofInt 4, .int (Int32.ofInt 20), rfl, rfl, rfl, hc⟩) rfl rfl hH
    rw [show nq_3.2.2.2.2 = [nq_3.2.2.2.2.head (by decide)] from rfl, List.mem_singleton] at hP
    subst hP
    have e2 : some (Value.int (Int32.ofInt (-104))) = some (.int x) := q0.1
    cases e2
    simp only [ln_X, ln_C, if_pos hr, if_pos u5]
    exact ⟨h', n', hM, k1, (kf 35 (by have := hH.1; omega) 4 rfl).trans hc, pb_f_nil kf⟩
  obtain ⟨x, h', n', hM, k1, kf, P, hP, V', q0, q1, q2, q3, q4⟩ := pq_go (Q := nq_2) (Γ := [.inl (0, 11, 0), .inl (0, 11, 0), .inl (0, 19, 0)]) (vs := [av_k 0, av_s 0, av_s 1]) (V := [.int a, .int t, .int c]) (as := [.ref 0, .int a, .int t]) (C := []) (F := [(av_k 35, av_c 4, av_s 2)]) (ny_48 H (222 + 2) nq_2 (by decide) rfl) mi_X10_line rfl rfl ⟨rfl, rfl, rfl, trivial⟩ (pt_two (x := c) (lo := 0) (hi := 19) (by omega) (by omega) (pt_two (x := t) (lo := 0) (hi := 11) (by omega) (by omega) (pt_one (x := a) (lo := 0) (hi := 11) (by omega) (by omega)))) (fun q hq => nomatch hq) (fun q hq => by rw [List.mem_singleton] at hq; subst hq; exact Or.inl ⟨35, Int32.ofInt 4, .int c, rfl, rfl, rfl, hc⟩) rfl rfl hH
  rw [show nq_2.2.2.2.2 = [nq_2.2.2.2.2.head (by decide)] from rfl, List.mem_singleton] at hP
  subst hP
  obtain ⟨u, v, w1, w2, w3⟩ := q1 (2, 3, -1) List.mem_cons_self
  obtain ⟨v', u', w4, w5, w6⟩ := q1 (3, 2, 1) (List.mem_cons_of_mem _ List.mem_cons_self)
  have e1 : u = c := by
    have : some (Value.int u) = some (.int c) := w1.symm.trans (q4 2 _ rfl)
    cases this; rfl
  have e2 : v' = v := by
    have : some (Value.int v') = some (.int v) := w4.symm.trans w2
    cases this; rfl
  have e3 : u' = u := by
    have : some (Value.int u') = some (.int u) := w5.symm.trans w1
    cases this; rfl
  have e4 : x = v := by
    have : some (Value.int x) = some (.int v) := q0.1.symm.trans w2
    cases this; rfl
  subst e2 e3 e4
  have w3' : u'.toInt - x.toInt ≤ -1 := w3
  have w6' : x.toInt - u'.toInt ≤ 1 := w6
  have ex : x = Int32.ofInt (c.toInt + 1) := by rw [← e1, show u'.toInt + 1 = x.toInt by omega, Int32.ofInt_toInt]
  simp only [ln_X, ln_C, if_pos hr, if_neg u5, ← ex]
  exact ⟨h', n', hM, k1, pq_rd q2 (k := 35) (i := 4) (v := av_s 3) List.mem_cons_self rfl w2, pb_f_of kf⟩
theorem ln_X11 (H : ab_Hand l G) (hH : ab_HT h n) (a t : Int32) {c : Int32} (hc : ab_rd h 542 20 = some (.int c)) (h0 : 0 ≤ c.toInt) (h20 : c.toInt ≤ 20) : ∃ (h' : ax_H) (n' : Nat), ab_M l G 40 mt_X11_line [.ref 542, .int a, .int t] h n (some (.int (ln_X a t c)), h', n') ∧ ab_HT h' n' ∧ ab_rd h' 542 20 = some (.int (ln_C a t c)) ∧ pb_f nq_8.2.2.2.1 n h h' := by
  have ma := pt_min a
  have mt := pt_min t
  by_cases u0 : a.toInt < 0
  · obtain ⟨x, h', n', hM, k1, kf, P, hP, V', q0, q1, q2, q3, q4⟩ := pq_go (Q := nq_10) (Γ := [.inl ((-2147483648), (-1), 0), .inl ((-2147483648), 2147483647, 0)]) (vs := [av_k 542, av_s 0, av_s 1]) (V := [.int a, .int t]) (as := [.ref 542, .int a, .int t]) (C := []) (F := []) (ny_48 H (222 + 10) nq_10 (by decide) rfl) mi_X11_line rfl rfl ⟨rfl, rfl, rfl, trivial⟩ (pt_two (x := t) (lo := (-2147483648)) (hi := 2147483647) (by omega) (by omega) (pt_one (x := a) (lo := (-2147483648)) (hi := (-1)) (by omega) (by omega))) (fun q hq => nomatch hq) (fun q hq => nomatch hq) rfl rfl hH
    rw [show nq_10.2.2.2.2 = [nq_10.2.2.2.2.head (by decide)] from rfl, List.mem_singleton] at hP
    subst hP
    have e2 : some (Value.int (Int32.ofInt (-101))) = some (.int x) := q0.1
    cases e2
    have hr : ¬ ((0 ≤ a.toInt ∧ a.toInt ≤ 11) ∧ 0 ≤ t.toInt ∧ t.toInt ≤ 11) := by omega
    simp only [ln_X, ln_C, if_neg hr]
    exact ⟨h', n', hM, k1, (kf 542 (by have := hH.1; omega) 20 rfl).trans hc, pb_f_nil kf⟩
  by_cases u1 : 11 < a.toInt
  · obtain ⟨x, h', n', hM, k1, kf, P, hP, V', q0, q1, q2, q3, q4⟩ := pq_go (Q := nq_11) (Γ := [.inl (12, 2147483647, 0), .inl ((-2147483648), 2147483647, 0)]) (vs := [av_k 542, av_s 0, av_s 1]) (V := [.int a, .int t]) (as := [.ref 542, .int a, .int t]) (C := []) (F := []) (ny_48 H (222 + 11) nq_11 (by decide) rfl) mi_X11_line rfl rfl ⟨rfl, rfl, rfl, trivial⟩ (pt_two (x := t) (lo := (-2147483648)) (hi := 2147483647) (by omega) (by omega) (pt_one (x := a) (lo := 12) (hi := 2147483647) (by omega) (by omega))) (fun q hq => nomatch hq) (fun q hq => nomatch hq) rfl rfl hH
    rw [show nq_11.2.2.2.2 = [nq_11.2.2.2.2.head (by decide)] from rfl, List.mem_singleton] at hP
    subst hP
    have e2 : some (Value.int (Int32.ofInt (-101))) = some (.int x) := q0.1
    cases e2
    have hr : ¬ ((0 ≤ a.toInt ∧ a.toInt ≤ 11) ∧ 0 ≤ t.toInt ∧ t.toInt ≤ 11) := by omega
    simp only [ln_X, ln_C, if_neg hr]
    exact ⟨h', n', hM, k1, (kf 542 (by have := hH.1; omega) 20 rfl).trans hc, pb_f_nil kf⟩
  by_cases u2 : t.toInt < 0
  · obtain ⟨x, h', n', hM, k1, kf, P, hP, V', q0, q1, q2, q3, q4⟩ := pq_go (Q := nq_12) (Γ := [.inl (0, 11, 0), .inl ((-2147483648), (-1), 0)]) (vs := [av_k 542, av_s 0, av_s 1]) (V := [.int a, .int t]) (as := [.ref 542, .int a, .int t]) (C := []) (F := []) (ny_48 H (222 + 12) nq_12 (by decide) rfl) mi_X11_line rfl rfl ⟨rfl, rfl, rfl, trivial⟩ (pt_two (x := t) (lo := (-2147483648)) (hi := (-1)) (by omega) (by omega) (pt_one (x := a) (lo := 0) (hi := 11) (by omega) (by omega))) (fun q hq => nomatch hq) (fun q hq => nomatch hq) rfl rfl hH
    rw [show nq_12.2.2.2.2 = [nq_12.2.2.2.2.head (by decide)] from rfl, List.mem_singleton] at hP
    subst hP
    have e2 : some (Value.int (Int32.ofInt (-101))) = some (.int x) := q0.1
    cases e2
    have hr : ¬ ((0 ≤ a.toInt ∧ a.toInt ≤ 11) ∧ 0 ≤ t.toInt ∧ t.toInt ≤ 11) := by omega
    simp only [ln_X, ln_C, if_neg hr]
    exact ⟨h', n', hM, k1, (kf 542 (by have := hH.1; omega) 20 rfl).trans hc, pb_f_nil kf⟩
  by_cases u3 : 11 < t.toInt
  · obtain ⟨x, h', n', hM, k1, kf, P, hP, V', q0, q1, q2, q3, q4⟩ := pq_go (Q := nq_13) (Γ := [.inl (0, 11, 0), .inl (12, 2147483647, 0)]) (vs := [av_k 542, av_s 0, av_s 1]) (V := [.int a, .int t]) (as := [.ref 542, .int a, .int t]) (C := []) (F := []) (ny_48 H (222 + 13) nq_13 (by decide) rfl) mi_X11_line rfl rfl ⟨rfl, rfl, rfl, trivial⟩ (pt_two (x := t) (lo := 12) (hi := 2147483647) (by omega) (by omega) (pt_one (x := a) (lo := 0) (hi := 11) (by omega) (by omega))) (fun q hq => nomatch hq) (fun q hq => nomatch hq) rfl rfl hH
    rw [show nq_13.2.2.2.2 = [nq_13.2.2.2.2.head (by decide)] from rfl, List.mem_singleton] at hP
    subst hP
    have e2 : some (Value.int (Int32.ofInt (-101))) = some (.int x) := q0.1
    cases e2
    have hr : ¬ ((0 ≤ a.toInt ∧ a.toInt ≤ 11) ∧ 0 ≤ t.toInt ∧ t.toInt ≤ 11) := by omega
    simp only [ln_X, ln_C, if_neg hr]
    exact ⟨h', n', hM, k1, (kf 542 (by have := hH.1; omega) 20 rfl).trans hc, pb_f_nil kf⟩
  have hr : (0 ≤ a.toInt ∧ a.toInt ≤ 11) ∧ 0 ≤ t.toInt ∧ t.toInt ≤ 11 := by omega
  by_cases u5 : c.toInt = 20
  · have e5 : c = Int32.ofInt 20 := Int32.toInt_inj.mp (by rw [u5]; rfl)
    subst e5
    obtain ⟨x, h', n', hM, k1, kf, P, hP, V', q0, q1, q2, q3, q4⟩ := pq_go (Q := nq_9) (Γ := [.inl (0, 11, 0), .inl (0, 11, 0)]) (vs := [av_k 542, av_s 0, av_s 1]) (V := [.int a, .int t]) (as := [.ref 542, .int a, .int t]) (C := []) (F := [(av_k 542, av_c 20, av_c 20)]) (ny_48 H (222 + 9) nq_9 (by decide) rfl) mi_X11_line rfl rfl ⟨rfl, rfl, rfl, trivial⟩ (pt_two (x := t) (lo := 0) (hi := 11) (by omega) (by omega) (pt_one (x := a) (lo := 0) (hi := 11) (by omega) (by omega))) (fun q hq => nomatch hq) (fun q hq => by rw [List.mem_singleton] at hq; subst hq; exact Or.inl ⟨542, Int32.ofInt 20, .int (Int32.ofInt 20), rfl, rfl, rfl, hc⟩) rfl rfl hH
    rw [show nq_9.2.2.2.2 = [nq_9.2.2.2.2.head (by decide)] from rfl, List.mem_singleton] at hP
    subst hP
    have e2 : some (Value.int (Int32.ofInt (-104))) = some (.int x) := q0.1
    cases e2
    simp only [ln_X, ln_C, if_pos hr, if_pos u5]
    exact ⟨h', n', hM, k1, (kf 542 (by have := hH.1; omega) 20 rfl).trans hc, pb_f_nil kf⟩
  obtain ⟨x, h', n', hM, k1, kf, P, hP, V', q0, q1, q2, q3, q4⟩ := pq_go (Q := nq_8) (Γ := [.inl (0, 11, 0), .inl (0, 11, 0), .inl (0, 19, 0)]) (vs := [av_k 542, av_s 0, av_s 1]) (V := [.int a, .int t, .int c]) (as := [.ref 542, .int a, .int t]) (C := []) (F := [(av_k 542, av_c 20, av_s 2)]) (ny_48 H (222 + 8) nq_8 (by decide) rfl) mi_X11_line rfl rfl ⟨rfl, rfl, rfl, trivial⟩ (pt_two (x := c) (lo := 0) (hi := 19) (by omega) (by omega) (pt_two (x := t) (lo := 0) (hi := 11) (by omega) (by omega) (pt_one (x := a) (lo := 0) (hi := 11) (by omega) (by omega)))) (fun q hq => nomatch hq) (fun q hq => by rw [List.mem_singleton] at hq; subst hq; exact Or.inl ⟨542, Int32.ofInt 20, .int c, rfl, rfl, rfl, hc⟩) rfl rfl hH
  rw [show nq_8.2.2.2.2 = [nq_8.2.2.2.2.head (by decide)] from rfl, List.mem_singleton] at hP
  subst hP
  obtain ⟨u, v, w1, w2, w3⟩ := q1 (2, 3, -1) List.mem_cons_self
  obtain ⟨v', u', w4, w5, w6⟩ := q1 (3, 2, 1) (List.mem_cons_of_mem _ List.mem_cons_self)
  have e1 : u = c := by
    have : some (Value.int u) = some (.int c) := w1.symm.trans (q4 2 _ rfl)
    cases this; rfl
  have e2 : v' = v := by
    have : some (Value.int v') = some (.int v) := w4.symm.trans w2
    cases this; rfl
  have e3 : u' = u := by
    have : some (Value.int u') = some (.int u) := w5.symm.trans w1
    cases this; rfl
  have e4 : x = v := by
    have : some (Value.int x) = some (.int v) := q0.1.symm.trans w2
    cases this; rfl
  subst e2 e3 e4
  have w3' : u'.toInt - x.toInt ≤ -1 := w3
  have w6' : x.toInt - u'.toInt ≤ 1 := w6
  have ex : x = Int32.ofInt (c.toInt + 1) := by rw [← e1, show u'.toInt + 1 = x.toInt by omega, Int32.ofInt_toInt]
  simp only [ln_X, ln_C, if_pos hr, if_neg u5, ← ex]
  exact ⟨h', n', hM, k1, pq_rd q2 (k := 542) (i := 20) (v := av_s 3) List.mem_cons_self rfl w2, pb_f_of kf⟩
/-- the rows noted of each mason, in the class and in the reference -/
def nt_P (C : Bool) (j : Nat) : Nat × Int := bif C then (170 + 62 * j, 1) else (555, (j : Int))
def nt_c (C : Bool) (h : ax_H) (c : Nat → Int32) : Prop := ∀ j, j < 6 → ab_rd h (nt_P C j).1 (nt_P C j).2 = some (.int (c j)) ∧ 0 ≤ (c j).toInt ∧ (c j).toInt ≤ 30
def nt_up (c : Nat → Int32) (m : Nat) (j : Nat) : Int32 := if j = m then Int32.ofInt ((c m).toInt + 1) else c j
def nt_34 (h : ax_H) : Prop := ∀ j : Nat, j < 6 → ab_rd h 34 (j : Int) = some (.ref (170 + 62 * j))
theorem nt_X10_0 (H : ab_Hand l G) (hH : ab_HT h n) (h34 : nt_34 h) (r : Int32) (hr0 : 0 ≤ r.toInt) (hr1 : r.toInt ≤ 11) {c : Nat → Int32} (hc : nt_c true h c) (h29 : (c 0).toInt ≤ 29) : ∃ (h' : ax_H) (n' : Nat), ab_M l G 40 mt_X10_note [.ref 0, .int (Int32.ofInt 0), .int r] h n (some (.int (Int32.ofInt ((c 0).toInt + 1))), h', n') ∧ ab_HT h' n' ∧ nt_c true h' (nt_up c 0) ∧ pb_f nq_16.2.2.2.1 n h h' := by
  obtain ⟨b0, l0, u0⟩ := hc 0 (by decide)
  obtain ⟨b1, l1, u1⟩ := hc 1 (by decide)
  obtain ⟨b2, l2, u2⟩ := hc 2 (by decide)
  obtain ⟨b3, l3, u3⟩ := hc 3 (by decide)
  obtain ⟨b4, l4, u4⟩ := hc 4 (by decide)
  obtain ⟨b5, l5, u5⟩ := hc 5 (by decide)
  obtain ⟨x, h', n', hM, k1, kf, P, hP, V', q0, q1, q2, q3, q4⟩ := pq_go (Q := nq_16) (Γ := [.inl (0, 11, 0), .inl (0, 29, 0), .inl (0, 30, 0), .inl (0, 30, 0), .inl (0, 30, 0), .inl (0, 30, 0), .inl (0, 30, 0)]) (vs := [av_k 0, av_c 0, av_s 0]) (V := [.int r, .int (c 0), .int (c 1), .int (c 2), .int (c 3), .int (c 4), .int (c 5)]) (as := [.ref 0, .int (Int32.ofInt 0), .int r]) (C := []) (F := [(av_k 34, av_c 0, av_k 170), (av_k 170, av_c 1, av_s 1), (av_k 232, av_c 1, av_s 2), (av_k 294, av_c 1, av_s 3), (av_k 356, av_c 1, av_s 4), (av_k 418, av_c 1, av_s 5), (av_k 480, av_c 1, av_s 6)]) (ny_48 H (222 + 16) nq_16 (by decide) rfl) mi_X10_note rfl rfl ⟨rfl, rfl, rfl, trivial⟩ (pt_two (x := (c 5)) (lo := 0) (hi := 30) (by omega) (by omega) (pt_two (x := (c 4)) (lo := 0) (hi := 30) (by omega) (by omega) (pt_two (x := (c 3)) (lo := 0) (hi := 30) (by omega) (by omega) (pt_two (x := (c 2)) (lo := 0) (hi := 30) (by omega) (by omega) (pt_two (x := (c 1)) (lo := 0) (hi := 30) (by omega) (by omega) (pt_two (x := (c 0)) (lo := 0) (hi := 29) (by omega) (by omega) (pt_one (x := r) (lo := 0) (hi := 11) (by omega) (by omega)))))))) (fun q hq => nomatch hq) (fun q hq => by
      simp only [List.mem_cons, List.not_mem_nil, or_false] at hq
      rcases hq with rfl | rfl | rfl | rfl | rfl | rfl | rfl
      · exact Or.inl ⟨34, Int32.ofInt 0, .ref 170, rfl, rfl, rfl, h34 0 (by decide)⟩
      · exact Or.inl ⟨170, Int32.ofInt 1, .int (c 0), rfl, rfl, rfl, b0⟩
      · exact Or.inl ⟨232, Int32.ofInt 1, .int (c 1), rfl, rfl, rfl, b1⟩
      · exact Or.inl ⟨294, Int32.ofInt 1, .int (c 2), rfl, rfl, rfl, b2⟩
      · exact Or.inl ⟨356, Int32.ofInt 1, .int (c 3), rfl, rfl, rfl, b3⟩
      · exact Or.inl ⟨418, Int32.ofInt 1, .int (c 4), rfl, rfl, rfl, b4⟩
      · exact Or.inl ⟨480, Int32.ofInt 1, .int (c 5), rfl, rfl, rfl, b5⟩) rfl rfl hH
  rw [show nq_16.2.2.2.2 = [nq_16.2.2.2.2.head (by decide)] from rfl, List.mem_singleton] at hP
  subst hP
  obtain ⟨u, v, w1, w2, w3⟩ := q1 (1, 7, -1) List.mem_cons_self
  obtain ⟨v', u', w4, w5, w6⟩ := q1 (7, 1, 1) (List.mem_cons_of_mem _ List.mem_cons_self)
  have e1 : u = c 0 := by
    have : some (Value.int u) = some (.int (c 0)) := w1.symm.trans (q4 1 _ rfl)
    cases this; rfl
  have e2 : v' = v := by
    have : some (Value.int v') = some (.int v) := w4.symm.trans w2
    cases this; rfl
  have e3 : u' = u := by
    have : some (Value.int u') = some (.int u) := w5.symm.trans w1
    cases this; rfl
  have e4 : x = v := by
    have : some (Value.int x) = some (.int v) := q0.1.symm.trans w2
    cases this; rfl
  subst e2 e3 e4
  have w3' : u'.toInt - x.toInt ≤ -1 := w3
  have w6' : x.toInt - u'.toInt ≤ 1 := w6
  have ex : x = Int32.ofInt ((c 0).toInt + 1) := by rw [← e1, show u'.toInt + 1 = x.toInt by omega, Int32.ofInt_toInt]
  have hx0 : 0 ≤ x.toInt ∧ x.toInt ≤ 30 := by
    rw [e1] at w3' w6'
    omega
  rw [← ex]
  refine ⟨h', n', hM, k1, fun j hj => ?_, pb_f_of kf⟩
  match j, hj with
  | 0, _ =>
    rw [show nt_up c 0 0 = x by rw [ex]; rfl]
    exact ⟨pq_rd q2 (k := 170) (i := 1) (v := av_s 7) List.mem_cons_self rfl w2, hx0⟩
  | 1, _ => exact ⟨pq_rd q2 (k := 232) (i := 1) (v := av_s 2) (List.mem_cons_of_mem _ List.mem_cons_self) rfl (q4 2 _ rfl), l1, u1⟩
  | 2, _ => exact ⟨pq_rd q2 (k := 294) (i := 1) (v := av_s 3) (List.mem_cons_of_mem _ (List.mem_cons_of_mem _ List.mem_cons_self)) rfl (q4 3 _ rfl), l2, u2⟩
  | 3, _ => exact ⟨pq_rd q2 (k := 356) (i := 1) (v := av_s 4) (List.mem_cons_of_mem _ (List.mem_cons_of_mem _ (List.mem_cons_of_mem _ List.mem_cons_self))) rfl (q4 4 _ rfl), l3, u3⟩
  | 4, _ => exact ⟨pq_rd q2 (k := 418) (i := 1) (v := av_s 5) (List.mem_cons_of_mem _ (List.mem_cons_of_mem _ (List.mem_cons_of_mem _ (List.mem_cons_of_mem _ List.mem_cons_self)))) rfl (q4 5 _ rfl), l4, u4⟩
  | 5, _ => exact ⟨pq_rd q2 (k := 480) (i := 1) (v := av_s 6) (List.mem_cons_of_mem _ (List.mem_cons_of_mem _ (List.mem_cons_of_mem _ (List.mem_cons_of_mem _ (List.mem_cons_of_mem _ List.mem_cons_self))))) rfl (q4 6 _ rfl), l5, u5⟩
  | j + 6, hj => omega
theorem nf_X10_0 (H : ab_Hand l G) (hH : ab_HT h n) (h34 : nt_34 h) (r : Int32) (hr0 : 0 ≤ r.toInt) (hr1 : r.toInt ≤ 11) (hc : ab_rd h 170 1 = some (.int (Int32.ofInt 30))) : ec_S l G mt_X10_note [.ref 0, .int (Int32.ofInt 0), .int r] h n [] (Int32.ofInt (-104)) := by
  obtain ⟨x, h', n', hM, k1, kf, P, hP, V', q0, q1, q2, q3, q4⟩ := pq_go (Q := nq_17) (Γ := [.inl (0, 11, 0)]) (vs := [av_k 0, av_c 0, av_s 0]) (V := [.int r]) (as := [.ref 0, .int (Int32.ofInt 0), .int r]) (C := []) (F := [(av_k 34, av_c 0, av_k 170), (av_k 170, av_c 1, av_c 30)]) (ny_48 H (222 + 17) nq_17 (by decide) rfl) mi_X10_note rfl rfl ⟨rfl, rfl, rfl, trivial⟩ (pt_one (x := r) (lo := 0) (hi := 11) (by omega) (by omega)) (fun q hq => nomatch hq) (fun q hq => by
      simp only [List.mem_cons, List.not_mem_nil, or_false] at hq
      rcases hq with rfl | rfl
      · exact Or.inl ⟨34, Int32.ofInt 0, .ref 170, rfl, rfl, rfl, h34 0 (by decide)⟩
      · exact Or.inl ⟨170, Int32.ofInt 1, .int (Int32.ofInt 30), rfl, rfl, rfl, hc⟩) rfl rfl hH
  rw [show nq_17.2.2.2.2 = [nq_17.2.2.2.2.head (by decide)] from rfl, List.mem_singleton] at hP
  subst hP
  have e2 : some (Value.int (Int32.ofInt (-104))) = some (.int x) := q0.1
  cases e2
  exact ⟨h', n', hM, k1, pb_f_nil kf⟩
theorem nt_X10_1 (H : ab_Hand l G) (hH : ab_HT h n) (h34 : nt_34 h) (r : Int32) (hr0 : 0 ≤ r.toInt) (hr1 : r.toInt ≤ 11) {c : Nat → Int32} (hc : nt_c true h c) (h29 : (c 1).toInt ≤ 29) : ∃ (h' : ax_H) (n' : Nat), ab_M l G 40 mt_X10_note [.ref 0, .int (Int32.ofInt 1), .int r] h n (some (.int (Int32.ofInt ((c 1).toInt + 1))), h', n') ∧ ab_HT h' n' ∧ nt_c true h' (nt_up c 1) ∧ pb_f nq_18.2.2.2.1 n h h' := by
  obtain ⟨b0, l0, u0⟩ := hc 0 (by decide)
  obtain ⟨b1, l1, u1⟩ := hc 1 (by decide)
  obtain ⟨b2, l2, u2⟩ := hc 2 (by decide)
  obtain ⟨b3, l3, u3⟩ := hc 3 (by decide)
  obtain ⟨b4, l4, u4⟩ := hc 4 (by decide)
  obtain ⟨b5, l5, u5⟩ := hc 5 (by decide)
  obtain ⟨x, h', n', hM, k1, kf, P, hP, V', q0, q1, q2, q3, q4⟩ := pq_go (Q := nq_18) (Γ := [.inl (0, 11, 0), .inl (0, 30, 0), .inl (0, 29, 0), .inl (0, 30, 0), .inl (0, 30, 0), .inl (0, 30, 0), .inl (0, 30, 0)]) (vs := [av_k 0, av_c 1, av_s 0]) (V := [.int r, .int (c 0), .int (c 1), .int (c 2), .int (c 3), .int (c 4), .int (c 5)]) (as := [.ref 0, .int (Int32.ofInt 1), .int r]) (C := []) (F := [(av_k 34, av_c 1, av_k 232), (av_k 170, av_c 1, av_s 1), (av_k 232, av_c 1, av_s 2), (av_k 294, av_c 1, av_s 3), (av_k 356, av_c 1, av_s 4), (av_k 418, av_c 1, av_s 5), (av_k 480, av_c 1, av_s 6)]) (ny_48 H (222 + 18) nq_18 (by decide) rfl) mi_X10_note rfl rfl ⟨rfl, rfl, rfl, trivial⟩ (pt_two (x := (c 5)) (lo := 0) (hi := 30) (by omega) (by omega) (pt_two (x := (c 4)) (lo := 0) (hi := 30) (by omega) (by omega) (pt_two (x := (c 3)) (lo := 0) (hi := 30) (by omega) (by omega) (pt_two (x := (c 2)) (lo := 0) (hi := 30) (by omega) (by omega) (pt_two (x := (c 1)) (lo := 0) (hi := 29) (by omega) (by omega) (pt_two (x := (c 0)) (lo := 0) (hi := 30) (by omega) (by omega) (pt_one (x := r) (lo := 0) (hi := 11) (by omega) (by omega)))))))) (fun q hq => nomatch hq) (fun q hq => by
      simp only [List.mem_cons, List.not_mem_nil, or_false] at hq
      rcases hq with rfl | rfl | rfl | rfl | rfl | rfl | rfl
      · exact Or.inl ⟨34, Int32.ofInt 1, .ref 232, rfl, rfl, rfl, h34 1 (by decide)⟩
      · exact Or.inl ⟨170, Int32.ofInt 1, .int (c 0), rfl, rfl, rfl, b0⟩
      · exact Or.inl ⟨232, Int32.ofInt 1, .int (c 1), rfl, rfl, rfl, b1⟩
      · exact Or.inl ⟨294, Int32.ofInt 1, .int (c 2), rfl, rfl, rfl, b2⟩
      · exact Or.inl ⟨356, Int32.ofInt 1, .int (c 3), rfl, rfl, rfl, b3⟩
      · exact Or.inl ⟨418, Int32.ofInt 1, .int (c 4), rfl, rfl, rfl, b4⟩
      · exact Or.inl ⟨480, Int32.ofInt 1, .int (c 5), rfl, rfl, rfl, b5⟩) rfl rfl hH
  rw [show nq_18.2.2.2.2 = [nq_18.2.2.2.2.head (by decide)] from rfl, List.mem_singleton] at hP
  subst hP
  obtain ⟨u, v, w1, w2, w3⟩ := q1 (2, 7, -1) List.mem_cons_self
  obtain ⟨v', u', w4, w5, w6⟩ := q1 (7, 2, 1) (List.mem_cons_of_mem _ List.mem_cons_self)
  have e1 : u = c 1 := by
    have : some (Value.int u) = some (.int (c 1)) := w1.symm.trans (q4 2 _ rfl)
    cases this; rfl
  have e2 : v' = v := by
    have : some (Value.int v') = some (.int v) := w4.symm.trans w2
    cases this; rfl
  have e3 : u' = u := by
    have : some (Value.int u') = some (.int u) := w5.symm.trans w1
    cases this; rfl
  have e4 : x = v := by
    have : some (Value.int x) = some (.int v) := q0.1.symm.trans w2
    cases this; rfl
  subst e2 e3 e4
  have w3' : u'.toInt - x.toInt ≤ -1 := w3
  have w6' : x.toInt - u'.toInt ≤ 1 := w6
  have ex : x = Int32.ofInt ((c 1).toInt + 1) := by rw [← e1, show u'.toInt + 1 = x.toInt by omega, Int32.ofInt_toInt]
  have hx0 : 0 ≤ x.toInt ∧ x.toInt ≤ 30 := by
    rw [e1] at w3' w6'
    omega
  rw [← ex]
  refine ⟨h', n', hM, k1, fun j hj => ?_, pb_f_of kf⟩
  match j, hj with
  | 0, _ => exact ⟨pq_rd q2 (k := 170) (i := 1) (v := av_s 1) List.mem_cons_self rfl (q4 1 _ rfl), l0, u0⟩
  | 1, _ =>
    rw [show nt_up c 1 1 = x by rw [ex]; rfl]
    exact ⟨pq_rd q2 (k := 232) (i := 1) (v := av_s 7) (List.mem_cons_of_mem _ List.mem_cons_self) rfl w2, hx0⟩
  | 2, _ => exact ⟨pq_rd q2 (k := 294) (i := 1) (v := av_s 3) (List.mem_cons_of_mem _ (List.mem_cons_of_mem _ List.mem_cons_self)) rfl (q4 3 _ rfl), l2, u2⟩
  | 3, _ => exact ⟨pq_rd q2 (k := 356) (i := 1) (v := av_s 4) (List.mem_cons_of_mem _ (List.mem_cons_of_mem _ (List.mem_cons_of_mem _ List.mem_cons_self))) rfl (q4 4 _ rfl), l3, u3⟩
  | 4, _ => exact ⟨pq_rd q2 (k := 418) (i := 1) (v := av_s 5) (List.mem_cons_of_mem _ (List.mem_cons_of_mem _ (List.mem_cons_of_mem _ (List.mem_cons_of_mem _ List.mem_cons_self)))) rfl (q4 5 _ rfl), l4, u4⟩
  | 5, _ => exact ⟨pq_rd q2 (k := 480) (i := 1) (v := av_s 6) (List.mem_cons_of_mem _ (List.mem_cons_of_mem _ (List.mem_cons_of_mem _ (List.mem_cons_of_mem _ (List.mem_cons_of_mem _ List.mem_cons_self))))) rfl (q4 6 _ rfl), l5, u5⟩
  | j + 6, hj => omega
theorem nf_X10_1 (H : ab_Hand l G) (hH : ab_HT h n) (h34 : nt_34 h) (r : Int32) (hr0 : 0 ≤ r.toInt) (hr1 : r.toInt ≤ 11) (hc : ab_rd h 232 1 = some (.int (Int32.ofInt 30))) : ec_S l G mt_X10_note [.ref 0, .int (Int32.ofInt 1), .int r] h n [] (Int32.ofInt (-104)) := by
  obtain ⟨x, h', n', hM, k1, kf, P, hP, V', q0, q1, q2, q3, q4⟩ := pq_go (Q := nq_19) (Γ := [.inl (0, 11, 0)]) (vs := [av_k 0, av_c 1, av_s 0]) (V := [.int r]) (as := [.ref 0, .int (Int32.ofInt 1), .int r]) (C := []) (F := [(av_k 34, av_c 1, av_k 232), (av_k 232, av_c 1, av_c 30)]) (ny_48 H (222 + 19) nq_19 (by decide) rfl) mi_X10_note rfl rfl ⟨rfl, rfl, rfl, trivial⟩ (pt_one (x := r) (lo := 0) (hi := 11) (by omega) (by omega)) (fun q hq => nomatch hq) (fun q hq => by
      simp only [List.mem_cons, List.not_mem_nil, or_false] at hq
      rcases hq with rfl | rfl
      · exact Or.inl ⟨34, Int32.ofInt 1, .ref 232, rfl, rfl, rfl, h34 1 (by decide)⟩
      · exact Or.inl ⟨232, Int32.ofInt 1, .int (Int32.ofInt 30), rfl, rfl, rfl, hc⟩) rfl rfl hH
  rw [show nq_19.2.2.2.2 = [nq_19.2.2.2.2.head (by decide)] from rfl, List.mem_singleton] at hP
  subst hP
  have e2 : some (Value.int (Int32.ofInt (-104))) = some (.int x) := q0.1
  cases e2
  exact ⟨h', n', hM, k1, pb_f_nil kf⟩
theorem nt_X10_2 (H : ab_Hand l G) (hH : ab_HT h n) (h34 : nt_34 h) (r : Int32) (hr0 : 0 ≤ r.toInt) (hr1 : r.toInt ≤ 11) {c : Nat → Int32} (hc : nt_c true h c) (h29 : (c 2).toInt ≤ 29) : ∃ (h' : ax_H) (n' : Nat), ab_M l G 40 mt_X10_note [.ref 0, .int (Int32.ofInt 2), .int r] h n (some (.int (Int32.ofInt ((c 2).toInt + 1))), h', n') ∧ ab_HT h' n' ∧ nt_c true h' (nt_up c 2) ∧ pb_f nq_20.2.2.2.1 n h h' := by
  obtain ⟨b0, l0, u0⟩ := hc 0 (by decide)
  obtain ⟨b1, l1, u1⟩ := hc 1 (by decide)
  obtain ⟨b2, l2, u2⟩ := hc 2 (by decide)
  obtain ⟨b3, l3, u3⟩ := hc 3 (by decide)
  obtain ⟨b4, l4, u4⟩ := hc 4 (by decide)
  obtain ⟨b5, l5, u5⟩ := hc 5 (by decide)
  obtain ⟨x, h', n', hM, k1, kf, P, hP, V', q0, q1, q2, q3, q4⟩ := pq_go (Q := nq_20) (Γ := [.inl (0, 11, 0), .inl (0, 30, 0), .inl (0, 30, 0), .inl (0, 29, 0), .inl (0, 30, 0), .inl (0, 30, 0), .inl (0, 30, 0)]) (vs := [av_k 0, av_c 2, av_s 0]) (V := [.int r, .int (c 0), .int (c 1), .int (c 2), .int (c 3), .int (c 4), .int (c 5)]) (as := [.ref 0, .int (Int32.ofInt 2), .int r]) (C := []) (F := [(av_k 34, av_c 2, av_k 294), (av_k 170, av_c 1, av_s 1), (av_k 232, av_c 1, av_s 2), (av_k 294, av_c 1, av_s 3), (av_k 356, av_c 1, av_s 4), (av_k 418, av_c 1, av_s 5), (av_k 480, av_c 1, av_s 6)]) (ny_48 H (222 + 20) nq_20 (by decide) rfl) mi_X10_note rfl rfl ⟨rfl, rfl, rfl, trivial⟩ (pt_two (x := (c 5)) (lo := 0) (hi := 30) (by omega) (by omega) (pt_two (x := (c 4)) (lo := 0) (hi := 30) (by omega) (by omega) (pt_two (x := (c 3)) (lo := 0) (hi := 30) (by omega) (by omega) (pt_two (x := (c 2)) (lo := 0) (hi := 29) (by omega) (by omega) (pt_two (x := (c 1)) (lo := 0) (hi := 30) (by omega) (by omega) (pt_two (x := (c 0)) (lo := 0) (hi := 30) (by omega) (by omega) (pt_one (x := r) (lo := 0) (hi := 11) (by omega) (by omega)))))))) (fun q hq => nomatch hq) (fun q hq => by
      simp only [List.mem_cons, List.not_mem_nil, or_false] at hq
      rcases hq with rfl | rfl | rfl | rfl | rfl | rfl | rfl
      · exact Or.inl ⟨34, Int32.ofInt 2, .ref 294, rfl, rfl, rfl, h34 2 (by decide)⟩
      · exact Or.inl ⟨170, Int32.ofInt 1, .int (c 0), rfl, rfl, rfl, b0⟩
      · exact Or.inl ⟨232, Int32.ofInt 1, .int (c 1), rfl, rfl, rfl, b1⟩
      · exact Or.inl ⟨294, Int32.ofInt 1, .int (c 2), rfl, rfl, rfl, b2⟩
      · exact Or.inl ⟨356, Int32.ofInt 1, .int (c 3), rfl, rfl, rfl, b3⟩
      · exact Or.inl ⟨418, Int32.ofInt 1, .int (c 4), rfl, rfl, rfl, b4⟩
      · exact Or.inl ⟨480, Int32.ofInt 1, .int (c 5), rfl, rfl, rfl, b5⟩) rfl rfl hH
  rw [show nq_20.2.2.2.2 = [nq_20.2.2.2.2.head (by decide)] from rfl, List.mem_singleton] at hP
  subst hP
  obtain ⟨u, v, w1, w2, w3⟩ := q1 (3, 7, -1) List.mem_cons_self
  obtain ⟨v', u', w4, w5, w6⟩ := q1 (7, 3, 1) (List.mem_cons_of_mem _ List.mem_cons_self)
  have e1 : u = c 2 := by
    have : some (Value.int u) = some (.int (c 2)) := w1.symm.trans (q4 3 _ rfl)
    cases this; rfl
  have e2 : v' = v := by
    have : some (Value.int v') = some (.int v) := w4.symm.trans w2
    cases this; rfl
  have e3 : u' = u := by
    have : some (Value.int u') = some (.int u) := w5.symm.trans w1
    cases this; rfl
  have e4 : x = v := by
    have : some (Value.int x) = some (.int v) := q0.1.symm.trans w2
    cases this; rfl
  subst e2 e3 e4
  have w3' : u'.toInt - x.toInt ≤ -1 := w3
  have w6' : x.toInt - u'.toInt ≤ 1 := w6
  have ex : x = Int32.ofInt ((c 2).toInt + 1) := by rw [← e1, show u'.toInt + 1 = x.toInt by omega, Int32.ofInt_toInt]
  have hx0 : 0 ≤ x.toInt ∧ x.toInt ≤ 30 := by
    rw [e1] at w3' w6'
    omega
  rw [← ex]
  refine ⟨h', n', hM, k1, fun j hj => ?_, pb_f_of kf⟩
  match j, hj with
  | 0, _ => exact ⟨pq_rd q2 (k := 170) (i := 1) (v := av_s 1) List.mem_cons_self rfl (q4 1 _ rfl), l0, u0⟩
  | 1, _ => exact ⟨pq_rd q2 (k := 232) (i := 1) (v := av_s 2) (List.mem_cons_of_mem _ List.mem_cons_self) rfl (q4 2 _ rfl), l1, u1⟩
  | 2, _ =>
    rw [show nt_up c 2 2 = x by rw [ex]; rfl]
    exact ⟨pq_rd q2 (k := 294) (i := 1) (v := av_s 7) (List.mem_cons_of_mem _ (List.mem_cons_of_mem _ List.mem_cons_self)) rfl w2, hx0⟩
  | 3, _ => exact ⟨pq_rd q2 (k := 356) (i := 1) (v := av_s 4) (List.mem_cons_of_mem _ (List.mem_cons_of_mem _ (List.mem_cons_of_mem _ List.mem_cons_self))) rfl (q4 4 _ rfl), l3, u3⟩
  | 4, _ => exact ⟨pq_rd q2 (k := 418) (i := 1) (v := av_s 5) (List.mem_cons_of_mem _ (List.mem_cons_of_mem _ (List.mem_cons_of_mem _ (List.mem_cons_of_mem _ List.mem_cons_self)))) rfl (q4 5 _ rfl), l4, u4⟩
  | 5, _ => exact ⟨pq_rd q2 (k := 480) (i := 1) (v := av_s 6) (List.mem_cons_of_mem _ (List.mem_cons_of_mem _ (List.mem_cons_of_mem _ (List.mem_cons_of_mem _ (List.mem_cons_of_mem _ List.mem_cons_self))))) rfl (q4 6 _ rfl), l5, u5⟩
  | j + 6, hj => omega
theorem nf_X10_2 (H : ab_Hand l G) (hH : ab_HT h n) (h34 : nt_34 h) (r : Int32) (hr0 : 0 ≤ r.toInt) (hr1 : r.toInt ≤ 11) (hc : ab_rd h 294 1 = some (.int (Int32.ofInt 30))) : ec_S l G mt_X10_note [.ref 0, .int (Int32.ofInt 2), .int r] h n [] (Int32.ofInt (-104)) := by
  obtain ⟨x, h', n', hM, k1, kf, P, hP, V', q0, q1, q2, q3, q4⟩ := pq_go (Q := nq_21) (Γ := [.inl (0, 11, 0)]) (vs := [av_k 0, av_c 2, av_s 0]) (V := [.int r]) (as := [.ref 0, .int (Int32.ofInt 2), .int r]) (C := []) (F := [(av_k 34, av_c 2, av_k 294), (av_k 294, av_c 1, av_c 30)]) (ny_48 H (222 + 21) nq_21 (by decide) rfl) mi_X10_note rfl rfl ⟨rfl, rfl, rfl, trivial⟩ (pt_one (x := r) (lo := 0) (hi := 11) (by omega) (by omega)) (fun q hq => nomatch hq) (fun q hq => by
      simp only [List.mem_cons, List.not_mem_nil, or_false] at hq
      rcases hq with rfl | rfl
      · exact Or.inl ⟨34, Int32.ofInt 2, .ref 294, rfl, rfl, rfl, h34 2 (by decide)⟩
      · exact Or.inl ⟨294, Int32.ofInt 1, .int (Int32.ofInt 30), rfl, rfl, rfl, hc⟩) rfl rfl hH
  rw [show nq_21.2.2.2.2 = [nq_21.2.2.2.2.head (by decide)] from rfl, List.mem_singleton] at hP
  subst hP
  have e2 : some (Value.int (Int32.ofInt (-104))) = some (.int x) := q0.1
  cases e2
  exact ⟨h', n', hM, k1, pb_f_nil kf⟩
theorem nt_X10_3 (H : ab_Hand l G) (hH : ab_HT h n) (h34 : nt_34 h) (r : Int32) (hr0 : 0 ≤ r.toInt) (hr1 : r.toInt ≤ 11) {c : Nat → Int32} (hc : nt_c true h c) (h29 : (c 3).toInt ≤ 29) : ∃ (h' : ax_H) (n' : Nat), ab_M l G 40 mt_X10_note [.ref 0, .int (Int32.ofInt 3), .int r] h n (some (.int (Int32.ofInt ((c 3).toInt + 1))), h', n') ∧ ab_HT h' n' ∧ nt_c true h' (nt_up c 3) ∧ pb_f nq_22.2.2.2.1 n h h' := by
  obtain ⟨b0, l0, u0⟩ := hc 0 (by decide)
  obtain ⟨b1, l1, u1⟩ := hc 1 (by decide)
  obtain ⟨b2, l2, u2⟩ := hc 2 (by decide)
  obtain ⟨b3, l3, u3⟩ := hc 3 (by decide)
  obtain ⟨b4, l4, u4⟩ := hc 4 (by decide)
  obtain ⟨b5, l5, u5⟩ := hc 5 (by decide)
  obtain ⟨x, h', n', hM, k1, kf, P, hP, V', q0, q1, q2, q3, q4⟩ := pq_go (Q := nq_22) (Γ := [.inl (0, 11, 0), .inl (0, 30, 0), .inl (0, 30, 0), .inl (0, 30, 0), .inl (0, 29, 0), .inl (0, 30, 0), .inl (0, 30, 0)]) (vs := [av_k 0, av_c 3, av_s 0]) (V := [.int r, .int (c 0), .int (c 1), .int (c 2), .int (c 3), .int (c 4), .int (c 5)]) (as := [.ref 0, .int (Int32.ofInt 3), .int r]) (C := []) (F := [(av_k 34, av_c 3, av_k 356), (av_k 170, av_c 1, av_s 1), (av_k 232, av_c 1, av_s 2), (av_k 294, av_c 1, av_s 3), (av_k 356, av_c 1, av_s 4), (av_k 418, av_c 1, av_s 5), (av_k 480, av_c 1, av_s 6)]) (ny_48 H (222 + 22) nq_22 (by decide) rfl) mi_X10_note rfl rfl ⟨rfl, rfl, rfl, trivial⟩ (pt_two (x := (c 5)) (lo := 0) (hi := 30) (by omega) (by omega) (pt_two (x := (c 4)) (lo := 0) (hi := 30) (by omega) (by omega) (pt_two (x := (c 3)) (lo := 0) (hi := 29) (by omega) (by omega) (pt_two (x := (c 2)) (lo := 0) (hi := 30) (by omega) (by omega) (pt_two (x := (c 1)) (lo := 0) (hi := 30) (by omega) (by omega) (pt_two (x := (c 0)) (lo := 0) (hi := 30) (by omega) (by omega) (pt_one (x := r) (lo := 0) (hi := 11) (by omega) (by omega)))))))) (fun q hq => nomatch hq) (fun q hq => by
      simp only [List.mem_cons, List.not_mem_nil, or_false] at hq
      rcases hq with rfl | rfl | rfl | rfl | rfl | rfl | rfl
      · exact Or.inl ⟨34, Int32.ofInt 3, .ref 356, rfl, rfl, rfl, h34 3 (by decide)⟩
      · exact Or.inl ⟨170, Int32.ofInt 1, .int (c 0), rfl, rfl, rfl, b0⟩
      · exact Or.inl ⟨232, Int32.ofInt 1, .int (c 1), rfl, rfl, rfl, b1⟩
      · exact Or.inl ⟨294, Int32.ofInt 1, .int (c 2), rfl, rfl, rfl, b2⟩
      · exact Or.inl ⟨356, Int32.ofInt 1, .int (c 3), rfl, rfl, rfl, b3⟩
      · exact Or.inl ⟨418, Int32.ofInt 1, .int (c 4), rfl, rfl, rfl, b4⟩
      · exact Or.inl ⟨480, Int32.ofInt 1, .int (c 5), rfl, rfl, rfl, b5⟩) rfl rfl hH
  rw [show nq_22.2.2.2.2 = [nq_22.2.2.2.2.head (by decide)] from rfl, List.mem_singleton] at hP
  subst hP
  obtain ⟨u, v, w1, w2, w3⟩ := q1 (4, 7, -1) List.mem_cons_self
  obtain ⟨v', u', w4, w5, w6⟩ := q1 (7, 4, 1) (List.mem_cons_of_mem _ List.mem_cons_self)
  have e1 : u = c 3 := by
    have : some (Value.int u) = some (.int (c 3)) := w1.symm.trans (q4 4 _ rfl)
    cases this; rfl
  have e2 : v' = v := by
    have : some (Value.int v') = some (.int v) := w4.symm.trans w2
    cases this; rfl
  have e3 : u' = u := by
    have : some (Value.int u') = some (.int u) := w5.symm.trans w1
    cases this; rfl
  have e4 : x = v := by
    have : some (Value.int x) = some (.int v) := q0.1.symm.trans w2
    cases this; rfl
  subst e2 e3 e4
  have w3' : u'.toInt - x.toInt ≤ -1 := w3
  have w6' : x.toInt - u'.toInt ≤ 1 := w6
  have ex : x = Int32.ofInt ((c 3).toInt + 1) := by rw [← e1, show u'.toInt + 1 = x.toInt by omega, Int32.ofInt_toInt]
  have hx0 : 0 ≤ x.toInt ∧ x.toInt ≤ 30 := by
    rw [e1] at w3' w6'
    omega
  rw [← ex]
  refine ⟨h', n', hM, k1, fun j hj => ?_, pb_f_of kf⟩
  match j, hj with
  | 0, _ => exact ⟨pq_rd q2 (k := 170) (i := 1) (v := av_s 1) List.mem_cons_self rfl (q4 1 _ rfl), l0, u0⟩
  | 1, _ => exact ⟨pq_rd q2 (k := 232) (i := 1) (v := av_s 2) (List.mem_cons_of_mem _ List.mem_cons_self) rfl (q4 2 _ rfl), l1, u1⟩
  | 2, _ => exact ⟨pq_rd q2 (k := 294) (i := 1) (v := av_s 3) (List.mem_cons_of_mem _ (List.mem_cons_of_mem _ List.mem_cons_self)) rfl (q4 3 _ rfl), l2, u2⟩
  | 3, _ =>
    rw [show nt_up c 3 3 = x by rw [ex]; rfl]
    exact ⟨pq_rd q2 (k := 356) (i := 1) (v := av_s 7) (List.mem_cons_of_mem _ (List.mem_cons_of_mem _ (List.mem_cons_of_mem _ List.mem_cons_self))) rfl w2, hx0⟩
  | 4, _ => exact ⟨pq_rd q2 (k := 418) (i := 1) (v := av_s 5) (List.mem_cons_of_mem _ (List.mem_cons_of_mem _ (List.mem_cons_of_mem _ (List.mem_cons_of_mem _ List.mem_cons_self)))) rfl (q4 5 _ rfl), l4, u4⟩
  | 5, _ => exact ⟨pq_rd q2 (k := 480) (i := 1) (v := av_s 6) (List.mem_cons_of_mem _ (List.mem_cons_of_mem _ (List.mem_cons_of_mem _ (List.mem_cons_of_mem _ (List.mem_cons_of_mem _ List.mem_cons_self))))) rfl (q4 6 _ rfl), l5, u5⟩
  | j + 6, hj => omega
theorem nf_X10_3 (H : ab_Hand l G) (hH : ab_HT h n) (h34 : nt_34 h) (r : Int32) (hr0 : 0 ≤ r.toInt) (hr1 : r.toInt ≤ 11) (hc : ab_rd h 356 1 = some (.int (Int32.ofInt 30))) : ec_S l G mt_X10_note [.ref 0, .int (Int32.ofInt 3), .int r] h n [] (Int32.ofInt (-104)) := by
  obtain ⟨x, h', n', hM, k1, kf, P, hP, V', q0, q1, q2, q3, q4⟩ := pq_go (Q := nq_23) (Γ := [.inl (0, 11, 0)]) (vs := [av_k 0, av_c 3, av_s 0]) (V := [.int r]) (as := [.ref 0, .int (Int32.ofInt 3), .int r]) (C := []) (F := [(av_k 34, av_c 3, av_k 356), (av_k 356, av_c 1, av_c 30)]) (ny_48 H (222 + 23) nq_23 (by decide) rfl) mi_X10_note rfl rfl ⟨rfl, rfl, rfl, trivial⟩ (pt_one (x := r) (lo := 0) (hi := 11) (by omega) (by omega)) (fun q hq => nomatch hq) (fun q hq => by
      simp only [List.mem_cons, List.not_mem_nil, or_false] at hq
      rcases hq with rfl | rfl
      · exact Or.inl ⟨34, Int32.ofInt 3, .ref 356, rfl, rfl, rfl, h34 3 (by decide)⟩
      · exact Or.inl ⟨356, Int32.ofInt 1, .int (Int32.ofInt 30), rfl, rfl, rfl, hc⟩) rfl rfl hH
  rw [show nq_23.2.2.2.2 = [nq_23.2.2.2.2.head (by decide)] from rfl, List.mem_singleton] at hP
  subst hP
  have e2 : some (Value.int (Int32.ofInt (-104))) = some (.int x) := q0.1
  cases e2
  exact ⟨h', n', hM, k1, pb_f_nil kf⟩
theorem nt_X10_4 (H : ab_Hand l G) (hH : ab_HT h n) (h34 : nt_34 h) (r : Int32) (hr0 : 0 ≤ r.toInt) (hr1 : r.toInt ≤ 11) {c : Nat → Int32} (hc : nt_c true h c) (h29 : (c 4).toInt ≤ 29) : ∃ (h' : ax_H) (n' : Nat), ab_M l G 40 mt_X10_note [.ref 0, .int (Int32.ofInt 4), .int r] h n (some (.int (Int32.ofInt ((c 4).toInt + 1))), h', n') ∧ ab_HT h' n' ∧ nt_c true h' (nt_up c 4) ∧ pb_f nq_24.2.2.2.1 n h h' := by
  obtain ⟨b0, l0, u0⟩ := hc 0 (by decide)
  obtain ⟨b1, l1, u1⟩ := hc 1 (by decide)
  obtain ⟨b2, l2, u2⟩ := hc 2 (by decide)
  obtain ⟨b3, l3, u3⟩ := hc 3 (by decide)
  obtain ⟨b4, l4, u4⟩ := hc 4 (by decide)
  obtain ⟨b5, l5, u5⟩ := hc 5 (by decide)
  obtain ⟨x, h', n', hM, k1, kf, P, hP, V', q0, q1, q2, q3, q4⟩ := pq_go (Q := nq_24) (Γ := [.inl (0, 11, 0), .inl (0, 30, 0), .inl (0, 30, 0), .inl (0, 30, 0), .inl (0, 30, 0), .inl (0, 29, 0), .inl (0, 30, 0)]) (vs := [av_k 0, av_c 4, av_s 0]) (V := [.int r, .int (c 0), .int (c 1), .int (c 2), .int (c 3), .int (c 4), .int (c 5)]) (as := [.ref 0, .int (Int32.ofInt 4), .int r]) (C := []) (F := [(av_k 34, av_c 4, av_k 418), (av_k 170, av_c 1, av_s 1), (av_k 232, av_c 1, av_s 2), (av_k 294, av_c 1, av_s 3), (av_k 356, av_c 1, av_s 4), (av_k 418, av_c 1, av_s 5), (av_k 480, av_c 1, av_s 6)]) (ny_48 H (222 + 24) nq_24 (by decide) rfl) mi_X10_note rfl rfl ⟨rfl, rfl, rfl, trivial⟩ (pt_two (x := (c 5)) (lo := 0) (hi := 30) (by omega) (by omega) (pt_two (x := (c 4)) (lo := 0) (hi := 29) (by omega) (by omega) (pt_two (x := (c 3)) (lo := 0) (hi := 30) (by omega) (by omega) (pt_two (x := (c 2)) (lo := 0) (hi := 30) (by omega) (by omega) (pt_two (x := (c 1)) (lo := 0) (hi := 30) (by omega) (by omega) (pt_two (x := (c 0)) (lo := 0) (hi := 30) (by omega) (by omega) (pt_one (x := r) (lo := 0) (hi := 11) (by omega) (by omega)))))))) (fun q hq => nomatch hq) (fun q hq => by
      simp only [List.mem_cons, List.not_mem_nil, or_false] at hq
      rcases hq with rfl | rfl | rfl | rfl | rfl | rfl | rfl
      · exact Or.inl ⟨34, Int32.ofInt 4, .ref 418, rfl, rfl, rfl, h34 4 (by decide)⟩
      · exact Or.inl ⟨170, Int32.ofInt 1, .int (c 0), rfl, rfl, rfl, b0⟩
      · exact Or.inl ⟨232, Int32.ofInt 1, .int (c 1), rfl, rfl, rfl, b1⟩
      · exact Or.inl ⟨294, Int32.ofInt 1, .int (c 2), rfl, rfl, rfl, b2⟩
      · exact Or.inl ⟨356, Int32.ofInt 1, .int (c 3), rfl, rfl, rfl, b3⟩
      · exact Or.inl ⟨418, Int32.ofInt 1, .int (c 4), rfl, rfl, rfl, b4⟩
      · exact Or.inl ⟨480, Int32.ofInt 1, .int (c 5), rfl, rfl, rfl, b5⟩) rfl rfl hH
  rw [show nq_24.2.2.2.2 = [nq_24.2.2.2.2.head (by decide)] from rfl, List.mem_singleton] at hP
  subst hP
  obtain ⟨u, v, w1, w2, w3⟩ := q1 (5, 7, -1) List.mem_cons_self
  obtain ⟨v', u', w4, w5, w6⟩ := q1 (7, 5, 1) (List.mem_cons_of_mem _ List.mem_cons_self)
  have e1 : u = c 4 := by
    have : some (Value.int u) = some (.int (c 4)) := w1.symm.trans (q4 5 _ rfl)
    cases this; rfl
  have e2 : v' = v := by
    have : some (Value.int v') = some (.int v) := w4.symm.trans w2
    cases this; rfl
  have e3 : u' = u := by
    have : some (Value.int u') = some (.int u) := w5.symm.trans w1
    cases this; rfl
  have e4 : x = v := by
    have : some (Value.int x) = some (.int v) := q0.1.symm.trans w2
    cases this; rfl
  subst e2 e3 e4
  have w3' : u'.toInt - x.toInt ≤ -1 := w3
  have w6' : x.toInt - u'.toInt ≤ 1 := w6
  have ex : x = Int32.ofInt ((c 4).toInt + 1) := by rw [← e1, show u'.toInt + 1 = x.toInt by omega, Int32.ofInt_toInt]
  have hx0 : 0 ≤ x.toInt ∧ x.toInt ≤ 30 := by
    rw [e1] at w3' w6'
    omega
  rw [← ex]
  refine ⟨h', n', hM, k1, fun j hj => ?_, pb_f_of kf⟩
  match j, hj with
  | 0, _ => exact ⟨pq_rd q2 (k := 170) (i := 1) (v := av_s 1) List.mem_cons_self rfl (q4 1 _ rfl), l0, u0⟩
  | 1, _ => exact ⟨pq_rd q2 (k := 232) (i := 1) (v := av_s 2) (List.mem_cons_of_mem _ List.mem_cons_self) rfl (q4 2 _ rfl), l1, u1⟩
  | 2, _ => exact ⟨pq_rd q2 (k := 294) (i := 1) (v := av_s 3) (List.mem_cons_of_mem _ (List.mem_cons_of_mem _ List.mem_cons_self)) rfl (q4 3 _ rfl), l2, u2⟩
  | 3, _ => exact ⟨pq_rd q2 (k := 356) (i := 1) (v := av_s 4) (List.mem_cons_of_mem _ (List.mem_cons_of_mem _ (List.mem_cons_of_mem _ List.mem_cons_self))) rfl (q4 4 _ rfl), l3, u3⟩
  | 4, _ =>
    rw [show nt_up c 4 4 = x by rw [ex]; rfl]
    exact ⟨pq_rd q2 (k := 418) (i := 1) (v := av_s 7) (List.mem_cons_of_mem _ (List.mem_cons_of_mem _ (List.mem_cons_of_mem _ (List.mem_cons_of_mem _ List.mem_cons_self)))) rfl w2, hx0⟩
  | 5, _ => exact ⟨pq_rd q2 (k := 480) (i := 1) (v := av_s 6) (List.mem_cons_of_mem _ (List.mem_cons_of_mem _ (List.mem_cons_of_mem _ (List.mem_cons_of_mem _ (List.mem_cons_of_mem _ List.mem_cons_self))))) rfl (q4 6 _ rfl), l5, u5⟩
  | j + 6, hj => omega
theorem nf_X10_4 (H : ab_Hand l G) (hH : ab_HT h n) (h34 : nt_34 h) (r : Int32) (hr0 : 0 ≤ r.toInt) (hr1 : r.toInt ≤ 11) (hc : ab_rd h 418 1 = some (.int (Int32.ofInt 30))) : ec_S l G mt_X10_note [.ref 0, .int (Int32.ofInt 4), .int r] h n [] (Int32.ofInt (-104)) := by
  obtain ⟨x, h', n', hM, k1, kf, P, hP, V', q0, q1, q2, q3, q4⟩ := pq_go (Q := nq_25) (Γ := [.inl (0, 11, 0)]) (vs := [av_k 0, av_c 4, av_s 0]) (V := [.int r]) (as := [.ref 0, .int (Int32.ofInt 4), .int r]) (C := []) (F := [(av_k 34, av_c 4, av_k 418), (av_k 418, av_c 1, av_c 30)]) (ny_48 H (222 + 25) nq_25 (by decide) rfl) mi_X10_note rfl rfl ⟨rfl, rfl, rfl, trivial⟩ (pt_one (x := r) (lo := 0) (hi := 11) (by omega) (by omega)) (fun q hq => nomatch hq) (fun q hq => by
      simp only [List.mem_cons, List.not_mem_nil, or_false] at hq
      rcases hq with rfl | rfl
      · exact Or.inl ⟨34, Int32.ofInt 4, .ref 418, rfl, rfl, rfl, h34 4 (by decide)⟩
      · exact Or.inl ⟨418, Int32.ofInt 1, .int (Int32.ofInt 30), rfl, rfl, rfl, hc⟩) rfl rfl hH
  rw [show nq_25.2.2.2.2 = [nq_25.2.2.2.2.head (by decide)] from rfl, List.mem_singleton] at hP
  subst hP
  have e2 : some (Value.int (Int32.ofInt (-104))) = some (.int x) := q0.1
  cases e2
  exact ⟨h', n', hM, k1, pb_f_nil kf⟩
theorem nt_X10_5 (H : ab_Hand l G) (hH : ab_HT h n) (h34 : nt_34 h) (r : Int32) (hr0 : 0 ≤ r.toInt) (hr1 : r.toInt ≤ 11) {c : Nat → Int32} (hc : nt_c true h c) (h29 : (c 5).toInt ≤ 29) : ∃ (h' : ax_H) (n' : Nat), ab_M l G 40 mt_X10_note [.ref 0, .int (Int32.ofInt 5), .int r] h n (some (.int (Int32.ofInt ((c 5).toInt + 1))), h', n') ∧ ab_HT h' n' ∧ nt_c true h' (nt_up c 5) ∧ pb_f nq_26.2.2.2.1 n h h' := by
  obtain ⟨b0, l0, u0⟩ := hc 0 (by decide)
  obtain ⟨b1, l1, u1⟩ := hc 1 (by decide)
  obtain ⟨b2, l2, u2⟩ := hc 2 (by decide)
  obtain ⟨b3, l3, u3⟩ := hc 3 (by decide)
  obtain ⟨b4, l4, u4⟩ := hc 4 (by decide)
  obtain ⟨b5, l5, u5⟩ := hc 5 (by decide)
  obtain ⟨x, h', n', hM, k1, kf, P, hP, V', q0, q1, q2, q3, q4⟩ := pq_go (Q := nq_26) (Γ := [.inl (0, 11, 0), .inl (0, 30, 0), .inl (0, 30, 0), .inl (0, 30, 0), .inl (0, 30, 0), .inl (0, 30, 0), .inl (0, 29, 0)]) (vs := [av_k 0, av_c 5, av_s 0]) (V := [.int r, .int (c 0), .int (c 1), .int (c 2), .int (c 3), .int (c 4), .int (c 5)]) (as := [.ref 0, .int (Int32.ofInt 5), .int r]) (C := []) (F := [(av_k 34, av_c 5, av_k 480), (av_k 170, av_c 1, av_s 1), (av_k 232, av_c 1, av_s 2), (av_k 294, av_c 1, av_s 3), (av_k 356, av_c 1, av_s 4), (av_k 418, av_c 1, av_s 5), (av_k 480, av_c 1, av_s 6)]) (ny_48 H (222 + 26) nq_26 (by decide) rfl) mi_X10_note rfl rfl ⟨rfl, rfl, rfl, trivial⟩ (pt_two (x := (c 5)) (lo := 0) (hi := 29) (by omega) (by omega) (pt_two (x := (c 4)) (lo := 0) (hi := 30) (by omega) (by omega) (pt_two (x := (c 3)) (lo := 0) (hi := 30) (by omega) (by omega) (pt_two (x := (c 2)) (lo := 0) (hi := 30) (by omega) (by omega) (pt_two (x := (c 1)) (lo := 0) (hi := 30) (by omega) (by omega) (pt_two (x := (c 0)) (lo := 0) (hi := 30) (by omega) (by omega) (pt_one (x := r) (lo := 0) (hi := 11) (by omega) (by omega)))))))) (fun q hq => nomatch hq) (fun q hq => by
      simp only [List.mem_cons, List.not_mem_nil, or_false] at hq
      rcases hq with rfl | rfl | rfl | rfl | rfl | rfl | rfl
      · exact Or.inl ⟨34, Int32.ofInt 5, .ref 480, rfl, rfl, rfl, h34 5 (by decide)⟩
      · exact Or.inl ⟨170, Int32.ofInt 1, .int (c 0), rfl, rfl, rfl, b0⟩
      · exact Or.inl ⟨232, Int32.ofInt 1, .int (c 1), rfl, rfl, rfl, b1⟩
      · exact Or.inl ⟨294, Int32.ofInt 1, .int (c 2), rfl, rfl, rfl, b2⟩
      · exact Or.inl ⟨356, Int32.ofInt 1, .int (c 3), rfl, rfl, rfl, b3⟩
      · exact Or.inl ⟨418, Int32.ofInt 1, .int (c 4), rfl, rfl, rfl, b4⟩
      · exact Or.inl ⟨480, Int32.ofInt 1, .int (c 5), rfl, rfl, rfl, b5⟩) rfl rfl hH
  rw [show nq_26.2.2.2.2 = [nq_26.2.2.2.2.head (by decide)] from rfl, List.mem_singleton] at hP
  subst hP
  obtain ⟨u, v, w1, w2, w3⟩ := q1 (6, 7, -1) List.mem_cons_self
  obtain ⟨v', u', w4, w5, w6⟩ := q1 (7, 6, 1) (List.mem_cons_of_mem _ List.mem_cons_self)
  have e1 : u = c 5 := by
    have : some (Value.int u) = some (.int (c 5)) := w1.symm.trans (q4 6 _ rfl)
    cases this; rfl
  have e2 : v' = v := by
    have : some (Value.int v') = some (.int v) := w4.symm.trans w2
    cases this; rfl
  have e3 : u' = u := by
    have : some (Value.int u') = some (.int u) := w5.symm.trans w1
    cases this; rfl
  have e4 : x = v := by
    have : some (Value.int x) = some (.int v) := q0.1.symm.trans w2
    cases this; rfl
  subst e2 e3 e4
  have w3' : u'.toInt - x.toInt ≤ -1 := w3
  have w6' : x.toInt - u'.toInt ≤ 1 := w6
  have ex : x = Int32.ofInt ((c 5).toInt + 1) := by rw [← e1, show u'.toInt + 1 = x.toInt by omega, Int32.ofInt_toInt]
  have hx0 : 0 ≤ x.toInt ∧ x.toInt ≤ 30 := by
    rw [e1] at w3' w6'
    omega
  rw [← ex]
  refine ⟨h', n', hM, k1, fun j hj => ?_, pb_f_of kf⟩
  match j, hj with
  | 0, _ => exact ⟨pq_rd q2 (k := 170) (i := 1) (v := av_s 1) List.mem_cons_self rfl (q4 1 _ rfl), l0, u0⟩
  | 1, _ => exact ⟨pq_rd q2 (k := 232) (i := 1) (v := av_s 2) (List.mem_cons_of_mem _ List.mem_cons_self) rfl (q4 2 _ rfl), l1, u1⟩
  | 2, _ => exact ⟨pq_rd q2 (k := 294) (i := 1) (v := av_s 3) (List.mem_cons_of_mem _ (List.mem_cons_of_mem _ List.mem_cons_self)) rfl (q4 3 _ rfl), l2, u2⟩
  | 3, _ => exact ⟨pq_rd q2 (k := 356) (i := 1) (v := av_s 4) (List.mem_cons_of_mem _ (List.mem_cons_of_mem _ (List.mem_cons_of_mem _ List.mem_cons_self))) rfl (q4 4 _ rfl), l3, u3⟩
  | 4, _ => exact ⟨pq_rd q2 (k := 418) (i := 1) (v := av_s 5) (List.mem_cons_of_mem _ (List.mem_cons_of_mem _ (List.mem_cons_of_mem _ (List.mem_cons_of_mem _ List.mem_cons_self)))) rfl (q4 5 _ rfl), l4, u4⟩
  | 5, _ =>
    rw [show nt_up c 5 5 = x by rw [ex]; rfl]
    exact ⟨pq_rd q2 (k := 480) (i := 1) (v := av_s 7) (List.mem_cons_of_mem _ (List.mem_cons_of_mem _ (List.mem_cons_of_mem _ (List.mem_cons_of_mem _ (List.mem_cons_of_mem _ List.mem_cons_self))))) rfl w2, hx0⟩
  | j + 6, hj => omega
theorem nf_X10_5 (H : ab_Hand l G) (hH : ab_HT h n) (h34 : nt_34 h) (r : Int32) (hr0 : 0 ≤ r.toInt) (hr1 : r.toInt ≤ 11) (hc : ab_rd h 480 1 = some (.int (Int32.ofInt 30))) : ec_S l G mt_X10_note [.ref 0, .int (Int32.ofInt 5), .int r] h n [] (Int32.ofInt (-104)) := by
  obtain ⟨x, h', n', hM, k1, kf, P, hP, V', q0, q1, q2, q3, q4⟩ := pq_go (Q := nq_27) (Γ := [.inl (0, 11, 0)]) (vs := [av_k 0, av_c 5, av_s 0]) (V := [.int r]) (as := [.ref 0, .int (Int32.ofInt 5), .int r]) (C := []) (F := [(av_k 34, av_c 5, av_k 480), (av_k 480, av_c 1, av_c 30)]) (ny_48 H (222 + 27) nq_27 (by decide) rfl) mi_X10_note rfl rfl ⟨rfl, rfl, rfl, trivial⟩ (pt_one (x := r) (lo := 0) (hi := 11) (by omega) (by omega)) (fun q hq => nomatch hq) (fun q hq => by
      simp only [List.mem_cons, List.not_mem_nil, or_false] at hq
      rcases hq with rfl | rfl
      · exact Or.inl ⟨34, Int32.ofInt 5, .ref 480, rfl, rfl, rfl, h34 5 (by decide)⟩
      · exact Or.inl ⟨480, Int32.ofInt 1, .int (Int32.ofInt 30), rfl, rfl, rfl, hc⟩) rfl rfl hH
  rw [show nq_27.2.2.2.2 = [nq_27.2.2.2.2.head (by decide)] from rfl, List.mem_singleton] at hP
  subst hP
  have e2 : some (Value.int (Int32.ofInt (-104))) = some (.int x) := q0.1
  cases e2
  exact ⟨h', n', hM, k1, pb_f_nil kf⟩
theorem no_X10 (H : ab_Hand l G) (hH : ab_HT h n) (a r : Int32) (ho : ¬ ((0 ≤ a.toInt ∧ a.toInt ≤ 5) ∧ 0 ≤ r.toInt ∧ r.toInt ≤ 11)) : ec_S l G mt_X10_note [.ref 0, .int a, .int r] h n [] (Int32.ofInt (-101)) := by
  have ma := pt_min a
  have mt := pt_min r
  by_cases u0 : a.toInt < 0
  · obtain ⟨x, h', n', hM, k1, kf, P, hP, V', q0, q1, q2, q3, q4⟩ := pq_go (Q := nq_28) (Γ := [.inl ((-2147483648), (-1), 0), .inl ((-2147483648), 2147483647, 0)]) (vs := [av_k 0, av_s 0, av_s 1]) (V := [.int a, .int r]) (as := [.ref 0, .int a, .int r]) (C := []) (F := []) (ny_48 H (222 + 28) nq_28 (by decide) rfl) mi_X10_note rfl rfl ⟨rfl, rfl, rfl, trivial⟩ (pt_two (x := r) (lo := (-2147483648)) (hi := 2147483647) (by omega) (by omega) (pt_one (x := a) (lo := (-2147483648)) (hi := (-1)) (by omega) (by omega))) (fun q hq => nomatch hq) (fun q hq => nomatch hq) rfl rfl hH
    rw [show nq_28.2.2.2.2 = [nq_28.2.2.2.2.head (by decide)] from rfl, List.mem_singleton] at hP
    subst hP
    have e2 : some (Value.int (Int32.ofInt (-101))) = some (.int x) := q0.1
    cases e2
    exact ⟨h', n', hM, k1, pb_f_nil kf⟩
  by_cases u1 : 5 < a.toInt
  · obtain ⟨x, h', n', hM, k1, kf, P, hP, V', q0, q1, q2, q3, q4⟩ := pq_go (Q := nq_29) (Γ := [.inl (6, 2147483647, 0), .inl ((-2147483648), 2147483647, 0)]) (vs := [av_k 0, av_s 0, av_s 1]) (V := [.int a, .int r]) (as := [.ref 0, .int a, .int r]) (C := []) (F := []) (ny_48 H (222 + 29) nq_29 (by decide) rfl) mi_X10_note rfl rfl ⟨rfl, rfl, rfl, trivial⟩ (pt_two (x := r) (lo := (-2147483648)) (hi := 2147483647) (by omega) (by omega) (pt_one (x := a) (lo := 6) (hi := 2147483647) (by omega) (by omega))) (fun q hq => nomatch hq) (fun q hq => nomatch hq) rfl rfl hH
    rw [show nq_29.2.2.2.2 = [nq_29.2.2.2.2.head (by decide)] from rfl, List.mem_singleton] at hP
    subst hP
    have e2 : some (Value.int (Int32.ofInt (-101))) = some (.int x) := q0.1
    cases e2
    exact ⟨h', n', hM, k1, pb_f_nil kf⟩
  by_cases u2 : r.toInt < 0
  · obtain ⟨x, h', n', hM, k1, kf, P, hP, V', q0, q1, q2, q3, q4⟩ := pq_go (Q := nq_30) (Γ := [.inl (0, 5, 0), .inl ((-2147483648), (-1), 0)]) (vs := [av_k 0, av_s 0, av_s 1]) (V := [.int a, .int r]) (as := [.ref 0, .int a, .int r]) (C := []) (F := []) (ny_48 H (222 + 30) nq_30 (by decide) rfl) mi_X10_note rfl rfl ⟨rfl, rfl, rfl, trivial⟩ (pt_two (x := r) (lo := (-2147483648)) (hi := (-1)) (by omega) (by omega) (pt_one (x := a) (lo := 0) (hi := 5) (by omega) (by omega))) (fun q hq => nomatch hq) (fun q hq => nomatch hq) rfl rfl hH
    rw [show nq_30.2.2.2.2 = [nq_30.2.2.2.2.head (by decide)] from rfl, List.mem_singleton] at hP
    subst hP
    have e2 : some (Value.int (Int32.ofInt (-101))) = some (.int x) := q0.1
    cases e2
    exact ⟨h', n', hM, k1, pb_f_nil kf⟩
  obtain ⟨x, h', n', hM, k1, kf, P, hP, V', q0, q1, q2, q3, q4⟩ := pq_go (Q := nq_31) (Γ := [.inl (0, 5, 0), .inl (12, 2147483647, 0)]) (vs := [av_k 0, av_s 0, av_s 1]) (V := [.int a, .int r]) (as := [.ref 0, .int a, .int r]) (C := []) (F := []) (ny_48 H (222 + 31) nq_31 (by decide) rfl) mi_X10_note rfl rfl ⟨rfl, rfl, rfl, trivial⟩ (pt_two (x := r) (lo := 12) (hi := 2147483647) (by omega) (by omega) (pt_one (x := a) (lo := 0) (hi := 5) (by omega) (by omega))) (fun q hq => nomatch hq) (fun q hq => nomatch hq) rfl rfl hH
  rw [show nq_31.2.2.2.2 = [nq_31.2.2.2.2.head (by decide)] from rfl, List.mem_singleton] at hP
  subst hP
  have e2 : some (Value.int (Int32.ofInt (-101))) = some (.int x) := q0.1
  cases e2
  exact ⟨h', n', hM, k1, pb_f_nil kf⟩
theorem nt_X11_0 (H : ab_Hand l G) (hH : ab_HT h n) (r : Int32) (hr0 : 0 ≤ r.toInt) (hr1 : r.toInt ≤ 11) {c : Nat → Int32} (hc : nt_c false h c) (h29 : (c 0).toInt ≤ 29) : ∃ (h' : ax_H) (n' : Nat), ab_M l G 40 mt_X11_note [.ref 542, .int (Int32.ofInt 0), .int r] h n (some (.int (Int32.ofInt ((c 0).toInt + 1))), h', n') ∧ ab_HT h' n' ∧ nt_c false h' (nt_up c 0) ∧ pb_f nq_32.2.2.2.1 n h h' := by
  obtain ⟨b0, l0, u0⟩ := hc 0 (by decide)
  obtain ⟨b1, l1, u1⟩ := hc 1 (by decide)
  obtain ⟨b2, l2, u2⟩ := hc 2 (by decide)
  obtain ⟨b3, l3, u3⟩ := hc 3 (by decide)
  obtain ⟨b4, l4, u4⟩ := hc 4 (by decide)
  obtain ⟨b5, l5, u5⟩ := hc 5 (by decide)
  obtain ⟨x, h', n', hM, k1, kf, P, hP, V', q0, q1, q2, q3, q4⟩ := pq_go (Q := nq_32) (Γ := [.inl (0, 11, 0), .inl (0, 29, 0), .inl (0, 30, 0), .inl (0, 30, 0), .inl (0, 30, 0), .inl (0, 30, 0), .inl (0, 30, 0)]) (vs := [av_k 542, av_c 0, av_s 0]) (V := [.int r, .int (c 0), .int (c 1), .int (c 2), .int (c 3), .int (c 4), .int (c 5)]) (as := [.ref 542, .int (Int32.ofInt 0), .int r]) (C := []) (F := [(av_k 555, av_c 0, av_s 1), (av_k 555, av_c 1, av_s 2), (av_k 555, av_c 2, av_s 3), (av_k 555, av_c 3, av_s 4), (av_k 555, av_c 4, av_s 5), (av_k 555, av_c 5, av_s 6)]) (ny_48 H (222 + 32) nq_32 (by decide) rfl) mi_X11_note rfl rfl ⟨rfl, rfl, rfl, trivial⟩ (pt_two (x := (c 5)) (lo := 0) (hi := 30) (by omega) (by omega) (pt_two (x := (c 4)) (lo := 0) (hi := 30) (by omega) (by omega) (pt_two (x := (c 3)) (lo := 0) (hi := 30) (by omega) (by omega) (pt_two (x := (c 2)) (lo := 0) (hi := 30) (by omega) (by omega) (pt_two (x := (c 1)) (lo := 0) (hi := 30) (by omega) (by omega) (pt_two (x := (c 0)) (lo := 0) (hi := 29) (by omega) (by omega) (pt_one (x := r) (lo := 0) (hi := 11) (by omega) (by omega)))))))) (fun q hq => nomatch hq) (fun q hq => by
      simp only [List.mem_cons, List.not_mem_nil, or_false] at hq
      rcases hq with rfl | rfl | rfl | rfl | rfl | rfl
      · exact Or.inl ⟨555, Int32.ofInt 0, .int (c 0), rfl, rfl, rfl, b0⟩
      · exact Or.inl ⟨555, Int32.ofInt 1, .int (c 1), rfl, rfl, rfl, b1⟩
      · exact Or.inl ⟨555, Int32.ofInt 2, .int (c 2), rfl, rfl, rfl, b2⟩
      · exact Or.inl ⟨555, Int32.ofInt 3, .int (c 3), rfl, rfl, rfl, b3⟩
      · exact Or.inl ⟨555, Int32.ofInt 4, .int (c 4), rfl, rfl, rfl, b4⟩
      · exact Or.inl ⟨555, Int32.ofInt 5, .int (c 5), rfl, rfl, rfl, b5⟩) rfl rfl hH
  rw [show nq_32.2.2.2.2 = [nq_32.2.2.2.2.head (by decide)] from rfl, List.mem_singleton] at hP
  subst hP
  obtain ⟨u, v, w1, w2, w3⟩ := q1 (1, 7, -1) List.mem_cons_self
  obtain ⟨v', u', w4, w5, w6⟩ := q1 (7, 1, 1) (List.mem_cons_of_mem _ List.mem_cons_self)
  have e1 : u = c 0 := by
    have : some (Value.int u) = some (.int (c 0)) := w1.symm.trans (q4 1 _ rfl)
    cases this; rfl
  have e2 : v' = v := by
    have : some (Value.int v') = some (.int v) := w4.symm.trans w2
    cases this; rfl
  have e3 : u' = u := by
    have : some (Value.int u') = some (.int u) := w5.symm.trans w1
    cases this; rfl
  have e4 : x = v := by
    have : some (Value.int x) = some (.int v) := q0.1.symm.trans w2
    cases this; rfl
  subst e2 e3 e4
  have w3' : u'.toInt - x.toInt ≤ -1 := w3
  have w6' : x.toInt - u'.toInt ≤ 1 := w6
  have ex : x = Int32.ofInt ((c 0).toInt + 1) := by rw [← e1, show u'.toInt + 1 = x.toInt by omega, Int32.ofInt_toInt]
  have hx0 : 0 ≤ x.toInt ∧ x.toInt ≤ 30 := by
    rw [e1] at w3' w6'
    omega
  rw [← ex]
  refine ⟨h', n', hM, k1, fun j hj => ?_, pb_f_of kf⟩
  match j, hj with
  | 0, _ =>
    rw [show nt_up c 0 0 = x by rw [ex]; rfl]
    exact ⟨pq_rd q2 (k := 555) (i := 0) (v := av_s 7) List.mem_cons_self rfl w2, hx0⟩
  | 1, _ => exact ⟨pq_rd q2 (k := 555) (i := 1) (v := av_s 2) (List.mem_cons_of_mem _ List.mem_cons_self) rfl (q4 2 _ rfl), l1, u1⟩
  | 2, _ => exact ⟨pq_rd q2 (k := 555) (i := 2) (v := av_s 3) (List.mem_cons_of_mem _ (List.mem_cons_of_mem _ List.mem_cons_self)) rfl (q4 3 _ rfl), l2, u2⟩
  | 3, _ => exact ⟨pq_rd q2 (k := 555) (i := 3) (v := av_s 4) (List.mem_cons_of_mem _ (List.mem_cons_of_mem _ (List.mem_cons_of_mem _ List.mem_cons_self))) rfl (q4 4 _ rfl), l3, u3⟩
  | 4, _ => exact ⟨pq_rd q2 (k := 555) (i := 4) (v := av_s 5) (List.mem_cons_of_mem _ (List.mem_cons_of_mem _ (List.mem_cons_of_mem _ (List.mem_cons_of_mem _ List.mem_cons_self)))) rfl (q4 5 _ rfl), l4, u4⟩
  | 5, _ => exact ⟨pq_rd q2 (k := 555) (i := 5) (v := av_s 6) (List.mem_cons_of_mem _ (List.mem_cons_of_mem _ (List.mem_cons_of_mem _ (List.mem_cons_of_mem _ (List.mem_cons_of_mem _ List.mem_cons_self))))) rfl (q4 6 _ rfl), l5, u5⟩
  | j + 6, hj => omega
theorem nf_X11_0 (H : ab_Hand l G) (hH : ab_HT h n) (r : Int32) (hr0 : 0 ≤ r.toInt) (hr1 : r.toInt ≤ 11) (hc : ab_rd h 555 0 = some (.int (Int32.ofInt 30))) : ec_S l G mt_X11_note [.ref 542, .int (Int32.ofInt 0), .int r] h n [] (Int32.ofInt (-104)) := by
  obtain ⟨x, h', n', hM, k1, kf, P, hP, V', q0, q1, q2, q3, q4⟩ := pq_go (Q := nq_33) (Γ := [.inl (0, 11, 0)]) (vs := [av_k 542, av_c 0, av_s 0]) (V := [.int r]) (as := [.ref 542, .int (Int32.ofInt 0), .int r]) (C := []) (F := [(av_k 555, av_c 0, av_c 30)]) (ny_48 H (222 + 33) nq_33 (by decide) rfl) mi_X11_note rfl rfl ⟨rfl, rfl, rfl, trivial⟩ (pt_one (x := r) (lo := 0) (hi := 11) (by omega) (by omega)) (fun q hq => nomatch hq) (fun q hq => by rw [List.mem_singleton] at hq; subst hq; exact Or.inl ⟨555, Int32.ofInt 0, .int (Int32.ofInt 30), rfl, rfl, rfl, hc⟩) rfl rfl hH
  rw [show nq_33.2.2.2.2 = [nq_33.2.2.2.2.head (by decide)] from rfl, List.mem_singleton] at hP
  subst hP
  have e2 : some (Value.int (Int32.ofInt (-104))) = some (.int x) := q0.1
  cases e2
  exact ⟨h', n', hM, k1, pb_f_nil kf⟩
theorem nt_X11_1 (H : ab_Hand l G) (hH : ab_HT h n) (r : Int32) (hr0 : 0 ≤ r.toInt) (hr1 : r.toInt ≤ 11) {c : Nat → Int32} (hc : nt_c false h c) (h29 : (c 1).toInt ≤ 29) : ∃ (h' : ax_H) (n' : Nat), ab_M l G 40 mt_X11_note [.ref 542, .int (Int32.ofInt 1), .int r] h n (some (.int (Int32.ofInt ((c 1).toInt + 1))), h', n') ∧ ab_HT h' n' ∧ nt_c false h' (nt_up c 1) ∧ pb_f nq_34.2.2.2.1 n h h' := by
  obtain ⟨b0, l0, u0⟩ := hc 0 (by decide)
  obtain ⟨b1, l1, u1⟩ := hc 1 (by decide)
  obtain ⟨b2, l2, u2⟩ := hc 2 (by decide)
  obtain ⟨b3, l3, u3⟩ := hc 3 (by decide)
  obtain ⟨b4, l4, u4⟩ := hc 4 (by decide)
  obtain ⟨b5, l5, u5⟩ := hc 5 (by decide)
  obtain ⟨x, h', n', hM, k1, kf, P, hP, V', q0, q1, q2, q3, q4⟩ := pq_go (Q := nq_34) (Γ := [.inl (0, 11, 0), .inl (0, 30, 0), .inl (0, 29, 0), .inl (0, 30, 0), .inl (0, 30, 0), .inl (0, 30, 0), .inl (0, 30, 0)]) (vs := [av_k 542, av_c 1, av_s 0]) (V := [.int r, .int (c 0), .int (c 1), .int (c 2), .int (c 3), .int (c 4), .int (c 5)]) (as := [.ref 542, .int (Int32.ofInt 1), .int r]) (C := []) (F := [(av_k 555, av_c 0, av_s 1), (av_k 555, av_c 1, av_s 2), (av_k 555, av_c 2, av_s 3), (av_k 555, av_c 3, av_s 4), (av_k 555, av_c 4, av_s 5), (av_k 555, av_c 5, av_s 6)]) (ny_48 H (222 + 34) nq_34 (by decide) rfl) mi_X11_note rfl rfl ⟨rfl, rfl, rfl, trivial⟩ (pt_two (x := (c 5)) (lo := 0) (hi := 30) (by omega) (by omega) (pt_two (x := (c 4)) (lo := 0) (hi := 30) (by omega) (by omega) (pt_two (x := (c 3)) (lo := 0) (hi := 30) (by omega) (by omega) (pt_two (x := (c 2)) (lo := 0) (hi := 30) (by omega) (by omega) (pt_two (x := (c 1)) (lo := 0) (hi := 29) (by omega) (by omega) (pt_two (x := (c 0)) (lo := 0) (hi := 30) (by omega) (by omega) (pt_one (x := r) (lo := 0) (hi := 11) (by omega) (by omega)))))))) (fun q hq => nomatch hq) (fun q hq => by
      simp only [List.mem_cons, List.not_mem_nil, or_false] at hq
      rcases hq with rfl | rfl | rfl | rfl | rfl | rfl
      · exact Or.inl ⟨555, Int32.ofInt 0, .int (c 0), rfl, rfl, rfl, b0⟩
      · exact Or.inl ⟨555, Int32.ofInt 1, .int (c 1), rfl, rfl, rfl, b1⟩
      · exact Or.inl ⟨555, Int32.ofInt 2, .int (c 2), rfl, rfl, rfl, b2⟩
      · exact Or.inl ⟨555, Int32.ofInt 3, .int (c 3), rfl, rfl, rfl, b3⟩
      · exact Or.inl ⟨555, Int32.ofInt 4, .int (c 4), rfl, rfl, rfl, b4⟩
      · exact Or.inl ⟨555, Int32.ofInt 5, .int (c 5), rfl, rfl, rfl, b5⟩) rfl rfl hH
  rw [show nq_34.2.2.2.2 = [nq_34.2.2.2.2.head (by decide)] from rfl, List.mem_singleton] at hP
  subst hP
  obtain ⟨u, v, w1, w2, w3⟩ := q1 (2, 7, -1) List.mem_cons_self
  obtain ⟨v', u', w4, w5, w6⟩ := q1 (7, 2, 1) (List.mem_cons_of_mem _ List.mem_cons_self)
  have e1 : u = c 1 := by
    have : some (Value.int u) = some (.int (c 1)) := w1.symm.trans (q4 2 _ rfl)
    cases this; rfl
  have e2 : v' = v := by
    have : some (Value.int v') = some (.int v) := w4.symm.trans w2
    cases this; rfl
  have e3 : u' = u := by
    have : some (Value.int u') = some (.int u) := w5.symm.trans w1
    cases this; rfl
  have e4 : x = v := by
    have : some (Value.int x) = some (.int v) := q0.1.symm.trans w2
    cases this; rfl
  subst e2 e3 e4
  have w3' : u'.toInt - x.toInt ≤ -1 := w3
  have w6' : x.toInt - u'.toInt ≤ 1 := w6
  have ex : x = Int32.ofInt ((c 1).toInt + 1) := by rw [← e1, show u'.toInt + 1 = x.toInt by omega, Int32.ofInt_toInt]
  have hx0 : 0 ≤ x.toInt ∧ x.toInt ≤ 30 := by
    rw [e1] at w3' w6'
    omega
  rw [← ex]
  refine ⟨h', n', hM, k1, fun j hj => ?_, pb_f_of kf⟩
  match j, hj with
  | 0, _ => exact ⟨pq_rd q2 (k := 555) (i := 0) (v := av_s 1) List.mem_cons_self rfl (q4 1 _ rfl), l0, u0⟩
  | 1, _ =>
    rw [show nt_up c 1 1 = x by rw [ex]; rfl]
    exact ⟨pq_rd q2 (k := 555) (i := 1) (v := av_s 7) (List.mem_cons_of_mem _ List.mem_cons_self) rfl w2, hx0⟩
  | 2, _ => exact ⟨pq_rd q2 (k := 555) (i := 2) (v := av_s 3) (List.mem_cons_of_mem _ (List.mem_cons_of_mem _ List.mem_cons_self)) rfl (q4 3 _ rfl), l2, u2⟩
  | 3, _ => exact ⟨pq_rd q2 (k := 555) (i := 3) (v := av_s 4) (List.mem_cons_of_mem _ (List.mem_cons_of_mem _ (List.mem_cons_of_mem _ List.mem_cons_self))) rfl (q4 4 _ rfl), l3, u3⟩
  | 4, _ => exact ⟨pq_rd q2 (k := 555) (i := 4) (v := av_s 5) (List.mem_cons_of_mem _ (List.mem_cons_of_mem _ (List.mem_cons_of_mem _ (List.mem_cons_of_mem _ List.mem_cons_self)))) rfl (q4 5 _ rfl), l4, u4⟩
  | 5, _ => exact ⟨pq_rd q2 (k := 555) (i := 5) (v := av_s 6) (List.mem_cons_of_mem _ (List.mem_cons_of_mem _ (List.mem_cons_of_mem _ (List.mem_cons_of_mem _ (List.mem_cons_of_mem _ List.mem_cons_self))))) rfl (q4 6 _ rfl), l5, u5⟩
  | j + 6, hj => omega
theorem nf_X11_1 (H : ab_Hand l G) (hH : ab_HT h n) (r : Int32) (hr0 : 0 ≤ r.toInt) (hr1 : r.toInt ≤ 11) (hc : ab_rd h 555 1 = some (.int (Int32.ofInt 30))) : ec_S l G mt_X11_note [.ref 542, .int (Int32.ofInt 1), .int r] h n [] (Int32.ofInt (-104)) := by
  obtain ⟨x, h', n', hM, k1, kf, P, hP, V', q0, q1, q2, q3, q4⟩ := pq_go (Q := nq_35) (Γ := [.inl (0, 11, 0)]) (vs := [av_k 542, av_c 1, av_s 0]) (V := [.int r]) (as := [.ref 542, .int (Int32.ofInt 1), .int r]) (C := []) (F := [(av_k 555, av_c 1, av_c 30)]) (ny_48 H (222 + 35) nq_35 (by decide) rfl) mi_X11_note rfl rfl ⟨rfl, rfl, rfl, trivial⟩ (pt_one (x := r) (lo := 0) (hi := 11) (by omega) (by omega)) (fun q hq => nomatch hq) (fun q hq => by rw [List.mem_singleton] at hq; subst hq; exact Or.inl ⟨555, Int32.ofInt 1, .int (Int32.ofInt 30), rfl, rfl, rfl, hc⟩) rfl rfl hH
  rw [show nq_35.2.2.2.2 = [nq_35.2.2.2.2.head (by decide)] from rfl, List.mem_singleton] at hP
  subst hP
  have e2 : some (Value.int (Int32.ofInt (-104))) = some (.int x) := q0.1
  cases e2
  exact ⟨h', n', hM, k1, pb_f_nil kf⟩
theorem nt_X11_2 (H : ab_Hand l G) (hH : ab_HT h n) (r : Int32) (hr0 : 0 ≤ r.toInt) (hr1 : r.toInt ≤ 11) {c : Nat → Int32} (hc : nt_c false h c) (h29 : (c 2).toInt ≤ 29) : ∃ (h' : ax_H) (n' : Nat), ab_M l G 40 mt_X11_note [.ref 542, .int (Int32.ofInt 2), .int r] h n (some (.int (Int32.ofInt ((c 2).toInt + 1))), h', n') ∧ ab_HT h' n' ∧ nt_c false h' (nt_up c 2) ∧ pb_f nq_36.2.2.2.1 n h h' := by
  obtain ⟨b0, l0, u0⟩ := hc 0 (by decide)
  obtain ⟨b1, l1, u1⟩ := hc 1 (by decide)
  obtain ⟨b2, l2, u2⟩ := hc 2 (by decide)
  obtain ⟨b3, l3, u3⟩ := hc 3 (by decide)
  obtain ⟨b4, l4, u4⟩ := hc 4 (by decide)
  obtain ⟨b5, l5, u5⟩ := hc 5 (by decide)
  obtain ⟨x, h', n', hM, k1, kf, P, hP, V', q0, q1, q2, q3, q4⟩ := pq_go (Q := nq_36) (Γ := [.inl (0, 11, 0), .inl (0, 30, 0), .inl (0, 30, 0), .inl (0, 29, 0), .inl (0, 30, 0), .inl (0, 30, 0), .inl (0, 30, 0)]) (vs := [av_k 542, av_c 2, av_s 0]) (V := [.int r, .int (c 0), .int (c 1), .int (c 2), .int (c 3), .int (c 4), .int (c 5)]) (as := [.ref 542, .int (Int32.ofInt 2), .int r]) (C := []) (F := [(av_k 555, av_c 0, av_s 1), (av_k 555, av_c 1, av_s 2), (av_k 555, av_c 2, av_s 3), (av_k 555, av_c 3, av_s 4), (av_k 555, av_c 4, av_s 5), (av_k 555, av_c 5, av_s 6)]) (ny_48 H (222 + 36) nq_36 (by decide) rfl) mi_X11_note rfl rfl ⟨rfl, rfl, rfl, trivial⟩ (pt_two (x := (c 5)) (lo := 0) (hi := 30) (by omega) (by omega) (pt_two (x := (c 4)) (lo := 0) (hi := 30) (by omega) (by omega) (pt_two (x := (c 3)) (lo := 0) (hi := 30) (by omega) (by omega) (pt_two (x := (c 2)) (lo := 0) (hi := 29) (by omega) (by omega) (pt_two (x := (c 1)) (lo := 0) (hi := 30) (by omega) (by omega) (pt_two (x := (c 0)) (lo := 0) (hi := 30) (by omega) (by omega) (pt_one (x := r) (lo := 0) (hi := 11) (by omega) (by omega)))))))) (fun q hq => nomatch hq) (fun q hq => by
      simp only [List.mem_cons, List.not_mem_nil, or_false] at hq
      rcases hq with rfl | rfl | rfl | rfl | rfl | rfl
      · exact Or.inl ⟨555, Int32.ofInt 0, .int (c 0), rfl, rfl, rfl, b0⟩
      · exact Or.inl ⟨555, Int32.ofInt 1, .int (c 1), rfl, rfl, rfl, b1⟩
      · exact Or.inl ⟨555, Int32.ofInt 2, .int (c 2), rfl, rfl, rfl, b2⟩
      · exact Or.inl ⟨555, Int32.ofInt 3, .int (c 3), rfl, rfl, rfl, b3⟩
      · exact Or.inl ⟨555, Int32.ofInt 4, .int (c 4), rfl, rfl, rfl, b4⟩
      · exact Or.inl ⟨555, Int32.ofInt 5, .int (c 5), rfl, rfl, rfl, b5⟩) rfl rfl hH
  rw [show nq_36.2.2.2.2 = [nq_36.2.2.2.2.head (by decide)] from rfl, List.mem_singleton] at hP
  subst hP
  obtain ⟨u, v, w1, w2, w3⟩ := q1 (3, 7, -1) List.mem_cons_self
  obtain ⟨v', u', w4, w5, w6⟩ := q1 (7, 3, 1) (List.mem_cons_of_mem _ List.mem_cons_self)
  have e1 : u = c 2 := by
    have : some (Value.int u) = some (.int (c 2)) := w1.symm.trans (q4 3 _ rfl)
    cases this; rfl
  have e2 : v' = v := by
    have : some (Value.int v') = some (.int v) := w4.symm.trans w2
    cases this; rfl
  have e3 : u' = u := by
    have : some (Value.int u') = some (.int u) := w5.symm.trans w1
    cases this; rfl
  have e4 : x = v := by
    have : some (Value.int x) = some (.int v) := q0.1.symm.trans w2
    cases this; rfl
  subst e2 e3 e4
  have w3' : u'.toInt - x.toInt ≤ -1 := w3
  have w6' : x.toInt - u'.toInt ≤ 1 := w6
  have ex : x = Int32.ofInt ((c 2).toInt + 1) := by rw [← e1, show u'.toInt + 1 = x.toInt by omega, Int32.ofInt_toInt]
  have hx0 : 0 ≤ x.toInt ∧ x.toInt ≤ 30 := by
    rw [e1] at w3' w6'
    omega
  rw [← ex]
  refine ⟨h', n', hM, k1, fun j hj => ?_, pb_f_of kf⟩
  match j, hj with
  | 0, _ => exact ⟨pq_rd q2 (k := 555) (i := 0) (v := av_s 1) List.mem_cons_self rfl (q4 1 _ rfl), l0, u0⟩
  | 1, _ => exact ⟨pq_rd q2 (k := 555) (i := 1) (v := av_s 2) (List.mem_cons_of_mem _ List.mem_cons_self) rfl (q4 2 _ rfl), l1, u1⟩
  | 2, _ =>
    rw [show nt_up c 2 2 = x by rw [ex]; rfl]
    exact ⟨pq_rd q2 (k := 555) (i := 2) (v := av_s 7) (List.mem_cons_of_mem _ (List.mem_cons_of_mem _ List.mem_cons_self)) rfl w2, hx0⟩
  | 3, _ => exact ⟨pq_rd q2 (k := 555) (i := 3) (v := av_s 4) (List.mem_cons_of_mem _ (List.mem_cons_of_mem _ (List.mem_cons_of_mem _ List.mem_cons_self))) rfl (q4 4 _ rfl), l3, u3⟩
  | 4, _ => exact ⟨pq_rd q2 (k := 555) (i := 4) (v := av_s 5) (List.mem_cons_of_mem _ (List.mem_cons_of_mem _ (List.mem_cons_of_mem _ (List.mem_cons_of_mem _ List.mem_cons_self)))) rfl (q4 5 _ rfl), l4, u4⟩
  | 5, _ => exact ⟨pq_rd q2 (k := 555) (i := 5) (v := av_s 6) (List.mem_cons_of_mem _ (List.mem_cons_of_mem _ (List.mem_cons_of_mem _ (List.mem_cons_of_mem _ (List.mem_cons_of_mem _ List.mem_cons_self))))) rfl (q4 6 _ rfl), l5, u5⟩
  | j + 6, hj => omega
theorem nf_X11_2 (H : ab_Hand l G) (hH : ab_HT h n) (r : Int32) (hr0 : 0 ≤ r.toInt) (hr1 : r.toInt ≤ 11) (hc : ab_rd h 555 2 = some (.int (Int32.ofInt 30))) : ec_S l G mt_X11_note [.ref 542, .int (Int32.ofInt 2), .int r] h n [] (Int32.ofInt (-104)) := by
  obtain ⟨x, h', n', hM, k1, kf, P, hP, V', q0, q1, q2, q3, q4⟩ := pq_go (Q := nq_37) (Γ := [.inl (0, 11, 0)]) (vs := [av_k 542, av_c 2, av_s 0]) (V := [.int r]) (as := [.ref 542, .int (Int32.ofInt 2), .int r]) (C := []) (F := [(av_k 555, av_c 2, av_c 30)]) (ny_48 H (222 + 37) nq_37 (by decide) rfl) mi_X11_note rfl rfl ⟨rfl, rfl, rfl, trivial⟩ (pt_one (x := r) (lo := 0) (hi := 11) (by omega) (by omega)) (fun q hq => nomatch hq) (fun q hq => by rw [List.mem_singleton] at hq; subst hq; exact Or.inl ⟨555, Int32.ofInt 2, .int (Int32.ofInt 30), rfl, rfl, rfl, hc⟩) rfl rfl hH
  rw [show nq_37.2.2.2.2 = [nq_37.2.2.2.2.head (by decide)] from rfl, List.mem_singleton] at hP
  subst hP
  have e2 : some (Value.int (Int32.ofInt (-104))) = some (.int x) := q0.1
  cases e2
  exact ⟨h', n', hM, k1, pb_f_nil kf⟩
theorem nt_X11_3 (H : ab_Hand l G) (hH : ab_HT h n) (r : Int32) (hr0 : 0 ≤ r.toInt) (hr1 : r.toInt ≤ 11) {c : Nat → Int32} (hc : nt_c false h c) (h29 : (c 3).toInt ≤ 29) : ∃ (h' : ax_H) (n' : Nat), ab_M l G 40 mt_X11_note [.ref 542, .int (Int32.ofInt 3), .int r] h n (some (.int (Int32.ofInt ((c 3).toInt + 1))), h', n') ∧ ab_HT h' n' ∧ nt_c false h' (nt_up c 3) ∧ pb_f nq_38.2.2.2.1 n h h' := by
  obtain ⟨b0, l0, u0⟩ := hc 0 (by decide)
  obtain ⟨b1, l1, u1⟩ := hc 1 (by decide)
  obtain ⟨b2, l2, u2⟩ := hc 2 (by decide)
  obtain ⟨b3, l3, u3⟩ := hc 3 (by decide)
  obtain ⟨b4, l4, u4⟩ := hc 4 (by decide)
  obtain ⟨b5, l5, u5⟩ := hc 5 (by decide)
  obtain ⟨x, h', n', hM, k1, kf, P, hP, V', q0, q1, q2, q3, q4⟩ := pq_go (Q := nq_38) (Γ := [.inl (0, 11, 0), .inl (0, 30, 0), .inl (0, 30, 0), .inl (0, 30, 0), .inl (0, 29, 0), .inl (0, 30, 0), .inl (0, 30, 0)]) (vs := [av_k 542, av_c 3, av_s 0]) (V := [.int r, .int (c 0), .int (c 1), .int (c 2), .int (c 3), .int (c 4), .int (c 5)]) (as := [.ref 542, .int (Int32.ofInt 3), .int r]) (C := []) (F := [(av_k 555, av_c 0, av_s 1), (av_k 555, av_c 1, av_s 2), (av_k 555, av_c 2, av_s 3), (av_k 555, av_c 3, av_s 4), (av_k 555, av_c 4, av_s 5), (av_k 555, av_c 5, av_s 6)]) (ny_48 H (222 + 38) nq_38 (by decide) rfl) mi_X11_note rfl rfl ⟨rfl, rfl, rfl, trivial⟩ (pt_two (x := (c 5)) (lo := 0) (hi := 30) (by omega) (by omega) (pt_two (x := (c 4)) (lo := 0) (hi := 30) (by omega) (by omega) (pt_two (x := (c 3)) (lo := 0) (hi := 29) (by omega) (by omega) (pt_two (x := (c 2)) (lo := 0) (hi := 30) (by omega) (by omega) (pt_two (x := (c 1)) (lo := 0) (hi := 30) (by omega) (by omega) (pt_two (x := (c 0)) (lo := 0) (hi := 30) (by omega) (by omega) (pt_one (x := r) (lo := 0) (hi := 11) (by omega) (by omega)))))))) (fun q hq => nomatch hq) (fun q hq => by
      simp only [List.mem_cons, List.not_mem_nil, or_false] at hq
      rcases hq with rfl | rfl | rfl | rfl | rfl | rfl
      · exact Or.inl ⟨555, Int32.ofInt 0, .int (c 0), rfl, rfl, rfl, b0⟩
      · exact Or.inl ⟨555, Int32.ofInt 1, .int (c 1), rfl, rfl, rfl, b1⟩
      · exact Or.inl ⟨555, Int32.ofInt 2, .int (c 2), rfl, rfl, rfl, b2⟩
      · exact Or.inl ⟨555, Int32.ofInt 3, .int (c 3), rfl, rfl, rfl, b3⟩
      · exact Or.inl ⟨555, Int32.ofInt 4, .int (c 4), rfl, rfl, rfl, b4⟩
      · exact Or.inl ⟨555, Int32.ofInt 5, .int (c 5), rfl, rfl, rfl, b5⟩) rfl rfl hH
  rw [show nq_38.2.2.2.2 = [nq_38.2.2.2.2.head (by decide)] from rfl, List.mem_singleton] at hP
  subst hP
  obtain ⟨u, v, w1, w2, w3⟩ := q1 (4, 7, -1) List.mem_cons_self
  obtain ⟨v', u', w4, w5, w6⟩ := q1 (7, 4, 1) (List.mem_cons_of_mem _ List.mem_cons_self)
  have e1 : u = c 3 := by
    have : some (Value.int u) = some (.int (c 3)) := w1.symm.trans (q4 4 _ rfl)
    cases this; rfl
  have e2 : v' = v := by
    have : some (Value.int v') = some (.int v) := w4.symm.trans w2
    cases this; rfl
  have e3 : u' = u := by
    have : some (Value.int u') = some (.int u) := w5.symm.trans w1
    cases this; rfl
  have e4 : x = v := by
    have : some (Value.int x) = some (.int v) := q0.1.symm.trans w2
    cases this; rfl
  subst e2 e3 e4
  have w3' : u'.toInt - x.toInt ≤ -1 := w3
  have w6' : x.toInt - u'.toInt ≤ 1 := w6
  have ex : x = Int32.ofInt ((c 3).toInt + 1) := by rw [← e1, show u'.toInt + 1 = x.toInt by omega, Int32.ofInt_toInt]
  have hx0 : 0 ≤ x.toInt ∧ x.toInt ≤ 30 := by
    rw [e1] at w3' w6'
    omega
  rw [← ex]
  refine ⟨h', n', hM, k1, fun j hj => ?_, pb_f_of kf⟩
  match j, hj with
  | 0, _ => exact ⟨pq_rd q2 (k := 555) (i := 0) (v := av_s 1) List.mem_cons_self rfl (q4 1 _ rfl), l0, u0⟩
  | 1, _ => exact ⟨pq_rd q2 (k := 555) (i := 1) (v := av_s 2) (List.mem_cons_of_mem _ List.mem_cons_self) rfl (q4 2 _ rfl), l1, u1⟩
  | 2, _ => exact ⟨pq_rd q2 (k := 555) (i := 2) (v := av_s 3) (List.mem_cons_of_mem _ (List.mem_cons_of_mem _ List.mem_cons_self)) rfl (q4 3 _ rfl), l2, u2⟩
  | 3, _ =>
    rw [show nt_up c 3 3 = x by rw [ex]; rfl]
    exact ⟨pq_rd q2 (k := 555) (i := 3) (v := av_s 7) (List.mem_cons_of_mem _ (List.mem_cons_of_mem _ (List.mem_cons_of_mem _ List.mem_cons_self))) rfl w2, hx0⟩
  | 4, _ => exact ⟨pq_rd q2 (k := 555) (i := 4) (v := av_s 5) (List.mem_cons_of_mem _ (List.mem_cons_of_mem _ (List.mem_cons_of_mem _ (List.mem_cons_of_mem _ List.mem_cons_self)))) rfl (q4 5 _ rfl), l4, u4⟩
  | 5, _ => exact ⟨pq_rd q2 (k := 555) (i := 5) (v := av_s 6) (List.mem_cons_of_mem _ (List.mem_cons_of_mem _ (List.mem_cons_of_mem _ (List.mem_cons_of_mem _ (List.mem_cons_of_mem _ List.mem_cons_self))))) rfl (q4 6 _ rfl), l5, u5⟩
  | j + 6, hj => omega
theorem nf_X11_3 (H : ab_Hand l G) (hH : ab_HT h n) (r : Int32) (hr0 : 0 ≤ r.toInt) (hr1 : r.toInt ≤ 11) (hc : ab_rd h 555 3 = some (.int (Int32.ofInt 30))) : ec_S l G mt_X11_note [.ref 542, .int (Int32.ofInt 3), .int r] h n [] (Int32.ofInt (-104)) := by
  obtain ⟨x, h', n', hM, k1, kf, P, hP, V', q0, q1, q2, q3, q4⟩ := pq_go (Q := nq_39) (Γ := [.inl (0, 11, 0)]) (vs := [av_k 542, av_c 3, av_s 0]) (V := [.int r]) (as := [.ref 542, .int (Int32.ofInt 3), .int r]) (C := []) (F := [(av_k 555, av_c 3, av_c 30)]) (ny_48 H (222 + 39) nq_39 (by decide) rfl) mi_X11_note rfl rfl ⟨rfl, rfl, rfl, trivial⟩ (pt_one (x := r) (lo := 0) (hi := 11) (by omega) (by omega)) (fun q hq => nomatch hq) (fun q hq => by rw [List.mem_singleton] at hq; subst hq; exact Or.inl ⟨555, Int32.ofInt 3, .int (Int32.ofInt 30), rfl, rfl, rfl, hc⟩) rfl rfl hH
  rw [show nq_39.2.2.2.2 = [nq_39.2.2.2.2.head (by decide)] from rfl, List.mem_singleton] at hP
  subst hP
  have e2 : some (Value.int (Int32.ofInt (-104))) = some (.int x) := q0.1
  cases e2
  exact ⟨h', n', hM, k1, pb_f_nil kf⟩
theorem nt_X11_4 (H : ab_Hand l G) (hH : ab_HT h n) (r : Int32) (hr0 : 0 ≤ r.toInt) (hr1 : r.toInt ≤ 11) {c : Nat → Int32} (hc : nt_c false h c) (h29 : (c 4).toInt ≤ 29) : ∃ (h' : ax_H) (n' : Nat), ab_M l G 40 mt_X11_note [.ref 542, .int (Int32.ofInt 4), .int r] h n (some (.int (Int32.ofInt ((c 4).toInt + 1))), h', n') ∧ ab_HT h' n' ∧ nt_c false h' (nt_up c 4) ∧ pb_f nq_40.2.2.2.1 n h h' := by
  obtain ⟨b0, l0, u0⟩ := hc 0 (by decide)
  obtain ⟨b1, l1, u1⟩ := hc 1 (by decide)
  obtain ⟨b2, l2, u2⟩ := hc 2 (by decide)
  obtain ⟨b3, l3, u3⟩ := hc 3 (by decide)
  obtain ⟨b4, l4, u4⟩ := hc 4 (by decide)
  obtain ⟨b5, l5, u5⟩ := hc 5 (by decide)
  obtain ⟨x, h', n', hM, k1, kf, P, hP, V', q0, q1, q2, q3, q4⟩ := pq_go (Q := nq_40) (Γ := [.inl (0, 11, 0), .inl (0, 30, 0), .inl (0, 30, 0), .inl (0, 30, 0), .inl (0, 30, 0), .inl (0, 29, 0), .inl (0, 30, 0)]) (vs := [av_k 542, av_c 4, av_s 0]) (V := [.int r, .int (c 0), .int (c 1), .int (c 2), .int (c 3), .int (c 4), .int (c 5)]) (as := [.ref 542, .int (Int32.ofInt 4), .int r]) (C := []) (F := [(av_k 555, av_c 0, av_s 1), (av_k 555, av_c 1, av_s 2), (av_k 555, av_c 2, av_s 3), (av_k 555, av_c 3, av_s 4), (av_k 555, av_c 4, av_s 5), (av_k 555, av_c 5, av_s 6)]) (ny_48 H (222 + 40) nq_40 (by decide) rfl) mi_X11_note rfl rfl ⟨rfl, rfl, rfl, trivial⟩ (pt_two (x := (c 5)) (lo := 0) (hi := 30) (by omega) (by omega) (pt_two (x := (c 4)) (lo := 0) (hi := 29) (by omega) (by omega) (pt_two (x := (c 3)) (lo := 0) (hi := 30) (by omega) (by omega) (pt_two (x := (c 2)) (lo := 0) (hi := 30) (by omega) (by omega) (pt_two (x := (c 1)) (lo := 0) (hi := 30) (by omega) (by omega) (pt_two (x := (c 0)) (lo := 0) (hi := 30) (by omega) (by omega) (pt_one (x := r) (lo := 0) (hi := 11) (by omega) (by omega)))))))) (fun q hq => nomatch hq) (fun q hq => by
      simp only [List.mem_cons, List.not_mem_nil, or_false] at hq
      rcases hq with rfl | rfl | rfl | rfl | rfl | rfl
      · exact Or.inl ⟨555, Int32.ofInt 0, .int (c 0), rfl, rfl, rfl, b0⟩
      · exact Or.inl ⟨555, Int32.ofInt 1, .int (c 1), rfl, rfl, rfl, b1⟩
      · exact Or.inl ⟨555, Int32.ofInt 2, .int (c 2), rfl, rfl, rfl, b2⟩
      · exact Or.inl ⟨555, Int32.ofInt 3, .int (c 3), rfl, rfl, rfl, b3⟩
      · exact Or.inl ⟨555, Int32.ofInt 4, .int (c 4), rfl, rfl, rfl, b4⟩
      · exact Or.inl ⟨555, Int32.ofInt 5, .int (c 5), rfl, rfl, rfl, b5⟩) rfl rfl hH
  rw [show nq_40.2.2.2.2 = [nq_40.2.2.2.2.head (by decide)] from rfl, List.mem_singleton] at hP
  subst hP
  obtain ⟨u, v, w1, w2, w3⟩ := q1 (5, 7, -1) List.mem_cons_self
  obtain ⟨v', u', w4, w5, w6⟩ := q1 (7, 5, 1) (List.mem_cons_of_mem _ List.mem_cons_self)
  have e1 : u = c 4 := by
    have : some (Value.int u) = some (.int (c 4)) := w1.symm.trans (q4 5 _ rfl)
    cases this; rfl
  have e2 : v' = v := by
    have : some (Value.int v') = some (.int v) := w4.symm.trans w2
    cases this; rfl
  have e3 : u' = u := by
    have : some (Value.int u') = some (.int u) := w5.symm.trans w1
    cases this; rfl
  have e4 : x = v := by
    have : some (Value.int x) = some (.int v) := q0.1.symm.trans w2
    cases this; rfl
  subst e2 e3 e4
  have w3' : u'.toInt - x.toInt ≤ -1 := w3
  have w6' : x.toInt - u'.toInt ≤ 1 := w6
  have ex : x = Int32.ofInt ((c 4).toInt + 1) := by rw [← e1, show u'.toInt + 1 = x.toInt by omega, Int32.ofInt_toInt]
  have hx0 : 0 ≤ x.toInt ∧ x.toInt ≤ 30 := by
    rw [e1] at w3' w6'
    omega
  rw [← ex]
  refine ⟨h', n', hM, k1, fun j hj => ?_, pb_f_of kf⟩
  match j, hj with
  | 0, _ => exact ⟨pq_rd q2 (k := 555) (i := 0) (v := av_s 1) List.mem_cons_self rfl (q4 1 _ rfl), l0, u0⟩
  | 1, _ => exact ⟨pq_rd q2 (k := 555) (i := 1) (v := av_s 2) (List.mem_cons_of_mem _ List.mem_cons_self) rfl (q4 2 _ rfl), l1, u1⟩
  | 2, _ => exact ⟨pq_rd q2 (k := 555) (i := 2) (v := av_s 3) (List.mem_cons_of_mem _ (List.mem_cons_of_mem _ List.mem_cons_self)) rfl (q4 3 _ rfl), l2, u2⟩
  | 3, _ => exact ⟨pq_rd q2 (k := 555) (i := 3) (v := av_s 4) (List.mem_cons_of_mem _ (List.mem_cons_of_mem _ (List.mem_cons_of_mem _ List.mem_cons_self))) rfl (q4 4 _ rfl), l3, u3⟩
  | 4, _ =>
    rw [show nt_up c 4 4 = x by rw [ex]; rfl]
    exact ⟨pq_rd q2 (k := 555) (i := 4) (v := av_s 7) (List.mem_cons_of_mem _ (List.mem_cons_of_mem _ (List.mem_cons_of_mem _ (List.mem_cons_of_mem _ List.mem_cons_self)))) rfl w2, hx0⟩
  | 5, _ => exact ⟨pq_rd q2 (k := 555) (i := 5) (v := av_s 6) (List.mem_cons_of_mem _ (List.mem_cons_of_mem _ (List.mem_cons_of_mem _ (List.mem_cons_of_mem _ (List.mem_cons_of_mem _ List.mem_cons_self))))) rfl (q4 6 _ rfl), l5, u5⟩
  | j + 6, hj => omega
theorem nf_X11_4 (H : ab_Hand l G) (hH : ab_HT h n) (r : Int32) (hr0 : 0 ≤ r.toInt) (hr1 : r.toInt ≤ 11) (hc : ab_rd h 555 4 = some (.int (Int32.ofInt 30))) : ec_S l G mt_X11_note [.ref 542, .int (Int32.ofInt 4), .int r] h n [] (Int32.ofInt (-104)) := by
  obtain ⟨x, h', n', hM, k1, kf, P, hP, V', q0, q1, q2, q3, q4⟩ := pq_go (Q := nq_41) (Γ := [.inl (0, 11, 0)]) (vs := [av_k 542, av_c 4, av_s 0]) (V := [.int r]) (as := [.ref 542, .int (Int32.ofInt 4), .int r]) (C := []) (F := [(av_k 555, av_c 4, av_c 30)]) (ny_48 H (222 + 41) nq_41 (by decide) rfl) mi_X11_note rfl rfl ⟨rfl, rfl, rfl, trivial⟩ (pt_one (x := r) (lo := 0) (hi := 11) (by omega) (by omega)) (fun q hq => nomatch hq) (fun q hq => by rw [List.mem_singleton] at hq; subst hq; exact Or.inl ⟨555, Int32.ofInt 4, .int (Int32.ofInt 30), rfl, rfl, rfl, hc⟩) rfl rfl hH
  rw [show nq_41.2.2.2.2 = [nq_41.2.2.2.2.head (by decide)] from rfl, List.mem_singleton] at hP
  subst hP
  have e2 : some (Value.int (Int32.ofInt (-104))) = some (.int x) := q0.1
  cases e2
  exact ⟨h', n', hM, k1, pb_f_nil kf⟩
theorem nt_X11_5 (H : ab_Hand l G) (hH : ab_HT h n) (r : Int32) (hr0 : 0 ≤ r.toInt) (hr1 : r.toInt ≤ 11) {c : Nat → Int32} (hc : nt_c false h c) (h29 : (c 5).toInt ≤ 29) : ∃ (h' : ax_H) (n' : Nat), ab_M l G 40 mt_X11_note [.ref 542, .int (Int32.ofInt 5), .int r] h n (some (.int (Int32.ofInt ((c 5).toInt + 1))), h', n') ∧ ab_HT h' n' ∧ nt_c false h' (nt_up c 5) ∧ pb_f nq_42.2.2.2.1 n h h' := by
  obtain ⟨b0, l0, u0⟩ := hc 0 (by decide)
  obtain ⟨b1, l1, u1⟩ := hc 1 (by decide)
  obtain ⟨b2, l2, u2⟩ := hc 2 (by decide)
  obtain ⟨b3, l3, u3⟩ := hc 3 (by decide)
  obtain ⟨b4, l4, u4⟩ := hc 4 (by decide)
  obtain ⟨b5, l5, u5⟩ := hc 5 (by decide)
  obtain ⟨x, h', n', hM, k1, kf, P, hP, V', q0, q1, q2, q3, q4⟩ := pq_go (Q := nq_42) (Γ := [.inl (0, 11, 0), .inl (0, 30, 0), .inl (0, 30, 0), .inl (0, 30, 0), .inl (0, 30, 0), .inl (0, 30, 0), .inl (0, 29, 0)]) (vs := [av_k 542, av_c 5, av_s 0]) (V := [.int r, .int (c 0), .int (c 1), .int (c 2), .int (c 3), .int (c 4), .int (c 5)]) (as := [.ref 542, .int (Int32.ofInt 5), .int r]) (C := []) (F := [(av_k 555, av_c 0, av_s 1), (av_k 555, av_c 1, av_s 2), (av_k 555, av_c 2, av_s 3), (av_k 555, av_c 3, av_s 4), (av_k 555, av_c 4, av_s 5), (av_k 555, av_c 5, av_s 6)]) (ny_48 H (222 + 42) nq_42 (by decide) rfl) mi_X11_note rfl rfl ⟨rfl, rfl, rfl, trivial⟩ (pt_two (x := (c 5)) (lo := 0) (hi := 29) (by omega) (by omega) (pt_two (x := (c 4)) (lo := 0) (hi := 30) (by omega) (by omega) (pt_two (x := (c 3)) (lo := 0) (hi := 30) (by omega) (by omega) (pt_two (x := (c 2)) (lo := 0) (hi := 30) (by omega) (by omega) (pt_two (x := (c 1)) (lo := 0) (hi := 30) (by omega) (by omega) (pt_two (x := (c 0)) (lo := 0) (hi := 30) (by omega) (by omega) (pt_one (x := r) (lo := 0) (hi := 11) (by omega) (by omega)))))))) (fun q hq => nomatch hq) (fun q hq => by
      simp only [List.mem_cons, List.not_mem_nil, or_false] at hq
      rcases hq with rfl | rfl | rfl | rfl | rfl | rfl
      · exact Or.inl ⟨555, Int32.ofInt 0, .int (c 0), rfl, rfl, rfl, b0⟩
      · exact Or.inl ⟨555, Int32.ofInt 1, .int (c 1), rfl, rfl, rfl, b1⟩
      · exact Or.inl ⟨555, Int32.ofInt 2, .int (c 2), rfl, rfl, rfl, b2⟩
      · exact Or.inl ⟨555, Int32.ofInt 3, .int (c 3), rfl, rfl, rfl, b3⟩
      · exact Or.inl ⟨555, Int32.ofInt 4, .int (c 4), rfl, rfl, rfl, b4⟩
      · exact Or.inl ⟨555, Int32.ofInt 5, .int (c 5), rfl, rfl, rfl, b5⟩) rfl rfl hH
  rw [show nq_42.2.2.2.2 = [nq_42.2.2.2.2.head (by decide)] from rfl, List.mem_singleton] at hP
  subst hP
  obtain ⟨u, v, w1, w2, w3⟩ := q1 (6, 7, -1) List.mem_cons_self
  obtain ⟨v', u', w4, w5, w6⟩ := q1 (7, 6, 1) (List.mem_cons_of_mem _ List.mem_cons_self)
  have e1 : u = c 5 := by
    have : some (Value.int u) = some (.int (c 5)) := w1.symm.trans (q4 6 _ rfl)
    cases this; rfl
  have e2 : v' = v := by
    have : some (Value.int v') = some (.int v) := w4.symm.trans w2
    cases this; rfl
  have e3 : u' = u := by
    have : some (Value.int u') = some (.int u) := w5.symm.trans w1
    cases this; rfl
  have e4 : x = v := by
    have : some (Value.int x) = some (.int v) := q0.1.symm.trans w2
    cases this; rfl
  subst e2 e3 e4
  have w3' : u'.toInt - x.toInt ≤ -1 := w3
  have w6' : x.toInt - u'.toInt ≤ 1 := w6
  have ex : x = Int32.ofInt ((c 5).toInt + 1) := by rw [← e1, show u'.toInt + 1 = x.toInt by omega, Int32.ofInt_toInt]
  have hx0 : 0 ≤ x.toInt ∧ x.toInt ≤ 30 := by
    rw [e1] at w3' w6'
    omega
  rw [← ex]
  refine ⟨h', n', hM, k1, fun j hj => ?_, pb_f_of kf⟩
  match j, hj with
  | 0, _ => exact ⟨pq_rd q2 (k := 555) (i := 0) (v := av_s 1) List.mem_cons_self rfl (q4 1 _ rfl), l0, u0⟩
  | 1, _ => exact ⟨pq_rd q2 (k := 555) (i := 1) (v := av_s 2) (List.mem_cons_of_mem _ List.mem_cons_self) rfl (q4 2 _ rfl), l1, u1⟩
  | 2, _ => exact ⟨pq_rd q2 (k := 555) (i := 2) (v := av_s 3) (List.mem_cons_of_mem _ (List.mem_cons_of_mem _ List.mem_cons_self)) rfl (q4 3 _ rfl), l2, u2⟩
  | 3, _ => exact ⟨pq_rd q2 (k := 555) (i := 3) (v := av_s 4) (List.mem_cons_of_mem _ (List.mem_cons_of_mem _ (List.mem_cons_of_mem _ List.mem_cons_self))) rfl (q4 4 _ rfl), l3, u3⟩
  | 4, _ => exact ⟨pq_rd q2 (k := 555) (i := 4) (v := av_s 5) (List.mem_cons_of_mem _ (List.mem_cons_of_mem _ (List.mem_cons_of_mem _ (List.mem_cons_of_mem _ List.mem_cons_self)))) rfl (q4 5 _ rfl), l4, u4⟩
  | 5, _ =>
    rw [show nt_up c 5 5 = x by rw [ex]; rfl]
    exact ⟨pq_rd q2 (k := 555) (i := 5) (v := av_s 7) (List.mem_cons_of_mem _ (List.mem_cons_of_mem _ (List.mem_cons_of_mem _ (List.mem_cons_of_mem _ (List.mem_cons_of_mem _ List.mem_cons_self))))) rfl w2, hx0⟩
  | j + 6, hj => omega
theorem nf_X11_5 (H : ab_Hand l G) (hH : ab_HT h n) (r : Int32) (hr0 : 0 ≤ r.toInt) (hr1 : r.toInt ≤ 11) (hc : ab_rd h 555 5 = some (.int (Int32.ofInt 30))) : ec_S l G mt_X11_note [.ref 542, .int (Int32.ofInt 5), .int r] h n [] (Int32.ofInt (-104)) := by
  obtain ⟨x, h', n', hM, k1, kf, P, hP, V', q0, q1, q2, q3, q4⟩ := pq_go (Q := nq_43) (Γ := [.inl (0, 11, 0)]) (vs := [av_k 542, av_c 5, av_s 0]) (V := [.int r]) (as := [.ref 542, .int (Int32.ofInt 5), .int r]) (C := []) (F := [(av_k 555, av_c 5, av_c 30)]) (ny_48 H (222 + 43) nq_43 (by decide) rfl) mi_X11_note rfl rfl ⟨rfl, rfl, rfl, trivial⟩ (pt_one (x := r) (lo := 0) (hi := 11) (by omega) (by omega)) (fun q hq => nomatch hq) (fun q hq => by rw [List.mem_singleton] at hq; subst hq; exact Or.inl ⟨555, Int32.ofInt 5, .int (Int32.ofInt 30), rfl, rfl, rfl, hc⟩) rfl rfl hH
  rw [show nq_43.2.2.2.2 = [nq_43.2.2.2.2.head (by decide)] from rfl, List.mem_singleton] at hP
  subst hP
  have e2 : some (Value.int (Int32.ofInt (-104))) = some (.int x) := q0.1
  cases e2
  exact ⟨h', n', hM, k1, pb_f_nil kf⟩
theorem no_X11 (H : ab_Hand l G) (hH : ab_HT h n) (a r : Int32) (ho : ¬ ((0 ≤ a.toInt ∧ a.toInt ≤ 5) ∧ 0 ≤ r.toInt ∧ r.toInt ≤ 11)) : ec_S l G mt_X11_note [.ref 542, .int a, .int r] h n [] (Int32.ofInt (-101)) := by
  have ma := pt_min a
  have mt := pt_min r
  by_cases u0 : a.toInt < 0
  · obtain ⟨x, h', n', hM, k1, kf, P, hP, V', q0, q1, q2, q3, q4⟩ := pq_go (Q := nq_44) (Γ := [.inl ((-2147483648), (-1), 0), .inl ((-2147483648), 2147483647, 0)]) (vs := [av_k 542, av_s 0, av_s 1]) (V := [.int a, .int r]) (as := [.ref 542, .int a, .int r]) (C := []) (F := []) (ny_48 H (222 + 44) nq_44 (by decide) rfl) mi_X11_note rfl rfl ⟨rfl, rfl, rfl, trivial⟩ (pt_two (x := r) (lo := (-2147483648)) (hi := 2147483647) (by omega) (by omega) (pt_one (x := a) (lo := (-2147483648)) (hi := (-1)) (by omega) (by omega))) (fun q hq => nomatch hq) (fun q hq => nomatch hq) rfl rfl hH
    rw [show nq_44.2.2.2.2 = [nq_44.2.2.2.2.head (by decide)] from rfl, List.mem_singleton] at hP
    subst hP
    have e2 : some (Value.int (Int32.ofInt (-101))) = some (.int x) := q0.1
    cases e2
    exact ⟨h', n', hM, k1, pb_f_nil kf⟩
  by_cases u1 : 5 < a.toInt
  · obtain ⟨x, h', n', hM, k1, kf, P, hP, V', q0, q1, q2, q3, q4⟩ := pq_go (Q := nq_45) (Γ := [.inl (6, 2147483647, 0), .inl ((-2147483648), 2147483647, 0)]) (vs := [av_k 542, av_s 0, av_s 1]) (V := [.int a, .int r]) (as := [.ref 542, .int a, .int r]) (C := []) (F := []) (ny_48 H (222 + 45) nq_45 (by decide) rfl) mi_X11_note rfl rfl ⟨rfl, rfl, rfl, trivial⟩ (pt_two (x := r) (lo := (-2147483648)) (hi := 2147483647) (by omega) (by omega) (pt_one (x := a) (lo := 6) (hi := 2147483647) (by omega) (by omega))) (fun q hq => nomatch hq) (fun q hq => nomatch hq) rfl rfl hH
    rw [show nq_45.2.2.2.2 = [nq_45.2.2.2.2.head (by decide)] from rfl, List.mem_singleton] at hP
    subst hP
    have e2 : some (Value.int (Int32.ofInt (-101))) = some (.int x) := q0.1
    cases e2
    exact ⟨h', n', hM, k1, pb_f_nil kf⟩
  by_cases u2 : r.toInt < 0
  · obtain ⟨x, h', n', hM, k1, kf, P, hP, V', q0, q1, q2, q3, q4⟩ := pq_go (Q := nq_46) (Γ := [.inl (0, 5, 0), .inl ((-2147483648), (-1), 0)]) (vs := [av_k 542, av_s 0, av_s 1]) (V := [.int a, .int r]) (as := [.ref 542, .int a, .int r]) (C := []) (F := []) (ny_48 H (222 + 46) nq_46 (by decide) rfl) mi_X11_note rfl rfl ⟨rfl, rfl, rfl, trivial⟩ (pt_two (x := r) (lo := (-2147483648)) (hi := (-1)) (by omega) (by omega) (pt_one (x := a) (lo := 0) (hi := 5) (by omega) (by omega))) (fun q hq => nomatch hq) (fun q hq => nomatch hq) rfl rfl hH
    rw [show nq_46.2.2.2.2 = [nq_46.2.2.2.2.head (by decide)] from rfl, List.mem_singleton] at hP
    subst hP
    have e2 : some (Value.int (Int32.ofInt (-101))) = some (.int x) := q0.1
    cases e2
    exact ⟨h', n', hM, k1, pb_f_nil kf⟩
  obtain ⟨x, h', n', hM, k1, kf, P, hP, V', q0, q1, q2, q3, q4⟩ := pq_go (Q := nq_47) (Γ := [.inl (0, 5, 0), .inl (12, 2147483647, 0)]) (vs := [av_k 542, av_s 0, av_s 1]) (V := [.int a, .int r]) (as := [.ref 542, .int a, .int r]) (C := []) (F := []) (ny_48 H (222 + 47) nq_47 (by decide) rfl) mi_X11_note rfl rfl ⟨rfl, rfl, rfl, trivial⟩ (pt_two (x := r) (lo := 12) (hi := 2147483647) (by omega) (by omega) (pt_one (x := a) (lo := 0) (hi := 5) (by omega) (by omega))) (fun q hq => nomatch hq) (fun q hq => nomatch hq) rfl rfl hH
  rw [show nq_47.2.2.2.2 = [nq_47.2.2.2.2.head (by decide)] from rfl, List.mem_singleton] at hP
  subst hP
  have e2 : some (Value.int (Int32.ofInt (-101))) = some (.int x) := q0.1
  cases e2
  exact ⟨h', n', hM, k1, pb_f_nil kf⟩
end LN
