/-! ===== the page as a custom's text, in the reference (ways printed by wip/v2/mk84c.py) ===== -/
def ks_53_l : List ab_Y := [.inl (1, 1, 0), .inl (5, 5, 0), .inl (10, 10, 0), .inl (50, 50, 0), .inl (100, 100, 0), .inl (500, 500, 0), .inl (1000, 1000, 0), .inl (1000, 1000, 0), .inl (5000, 5000, 0), .inl (10000, 10000, 0), .inl (50000, 50000, 0), .inl (100000, 100000, 0), .inl (500000, 500000, 0), .inl (1000000, 1000000, 0)]
set_option maxRecDepth 100000 in
theorem wo_at {h : ax_H} {n : Nat} (H : mc_HW h n) : ∀ j : Nat, j < 14 → ab_ri h 543 (j : Int) = pg_w (j : Int) := by
  intro j hj
  have key : ∀ (i : Nat) (c : Int), i < 14 → pg_w (i : Int) = c → (ks_53_l[i]? = some (.inl (c, c, 0))) → ab_ri h 543 (i : Int) = pg_w (i : Int) := by
    intro i c hi hc hg
    have := mc_cst H (k := 543) (σ := ks_53_l) rfl rfl hi hg
    omega
  match j, hj with
  | 0, _ => exact key 0 1 (by decide) (by decide) rfl
  | 1, _ => exact key 1 5 (by decide) (by decide) rfl
  | 2, _ => exact key 2 10 (by decide) (by decide) rfl
  | 3, _ => exact key 3 50 (by decide) (by decide) rfl
  | 4, _ => exact key 4 100 (by decide) (by decide) rfl
  | 5, _ => exact key 5 500 (by decide) (by decide) rfl
  | 6, _ => exact key 6 1000 (by decide) (by decide) rfl
  | 7, _ => exact key 7 1000 (by decide) (by decide) rfl
  | 8, _ => exact key 8 5000 (by decide) (by decide) rfl
  | 9, _ => exact key 9 10000 (by decide) (by decide) rfl
  | 10, _ => exact key 10 50000 (by decide) (by decide) rfl
  | 11, _ => exact key 11 100000 (by decide) (by decide) rfl
  | 12, _ => exact key 12 500000 (by decide) (by decide) rfl
  | 13, _ => exact key 13 1000000 (by decide) (by decide) rfl
theorem wo_i {h : ax_H} {n : Nat} (H : mc_HW h n) {i : Int} (h0 : 0 ≤ i) (h1 : i ≤ 13) : ab_ri h 543 i = pg_w i := by
  have := wo_at H i.toNat (by omega)
  rw [show ((i.toNat : Nat) : Int) = i by omega] at this
  exact this
/-- what is gathered of a sign behind the first letters: its count, those it may be taken once from, twice -/
def pg_k0 (f : Int → Int) : Nat → Nat → Int32
  | 0, _ => Int32.ofInt 0
  | j + 1, s => if pg_run f (j + 1) % 8 = 2 ∧ pg_run f (j + 1) / 8 = (s : Int) then Int32.ofInt (f (j : Int) - 48) else pg_k0 f j s
def pg_kb (q : Int) (f : Int → Int) : Nat → Nat → Int32
  | 0, _ => Int32.ofInt 0
  | j + 1, s => if pg_run f (j + 1) % 8 = q ∧ pg_run f (j + 1) / 8 = (s : Int) then pg_kb q f j s ||| ((Int32.ofInt 1) <<< ((Int32.ofInt (pg_s (f (j : Int)))) &&& 31)) else pg_kb q f j s
/-- the three arrays hold what is gathered, from place o on -/
def pg_K (h2 : ax_H) (c0 c1 c2 : Nat) (o : Int) (f : Int → Int) (j : Nat) : Prop := ∀ s : Nat, s < 14 → ab_rd h2 c0 (o + (s : Int)) = some (.int (pg_k0 f j s)) ∧ ab_rd h2 c1 (o + (s : Int)) = some (.int (pg_kb 5 f j s)) ∧ ab_rd h2 c2 (o + (s : Int)) = some (.int (pg_kb 6 f j s))
theorem pg_K_same {h2 : ax_H} {c0 c1 c2 : Nat} {o : Int} {f : Int → Int} {j : Nat} (r2 : pg_run f (j + 1) % 8 ≠ 2) (r5 : pg_run f (j + 1) % 8 ≠ 5) (r6 : pg_run f (j + 1) % 8 ≠ 6) (K : pg_K h2 c0 c1 c2 o f j) : pg_K h2 c0 c1 c2 o f (j + 1) := fun s hs => by
  obtain ⟨a, b, c⟩ := K s hs
  refine ⟨?_, ?_, ?_⟩
  · rw [a, pg_k0, if_neg (fun z => r2 z.1)]
  · rw [b, pg_kb, if_neg (fun z => r5 z.1)]
  · rw [c, pg_kb, if_neg (fun z => r6 z.1)]
theorem pg_K_of {h2 h3 : ax_H} {c0 c1 c2 : Nat} {o : Int} {f : Int → Int} {j : Nat} (e : ∀ (k : Nat) (i : Int), k = c0 ∨ k = c1 ∨ k = c2 → ab_rd h3 k i = ab_rd h2 k i) (K : pg_K h2 c0 c1 c2 o f j) : pg_K h3 c0 c1 c2 o f j := fun s hs => by
  obtain ⟨a, b, c⟩ := K s hs
  exact ⟨(e c0 _ (Or.inl rfl)).trans a, (e c1 _ (Or.inr (Or.inl rfl))).trans b, (e c2 _ (Or.inr (Or.inr rfl))).trans c⟩
theorem pg_k0_eq {f g : Int → Int} : ∀ (j s : Nat), (∀ t : Nat, t < j → f (t : Int) = g (t : Int)) → pg_k0 f j s = pg_k0 g j s
  | 0, _, _ => rfl
  | j + 1, s, e => by
    unfold pg_k0
    rw [pg_run_eq (j + 1) e, e j (by omega), pg_k0_eq j s (fun t ht => e t (by omega))]
theorem pg_kb_eq {q : Int} {f g : Int → Int} : ∀ (j s : Nat), (∀ t : Nat, t < j → f (t : Int) = g (t : Int)) → pg_kb q f j s = pg_kb q g j s
  | 0, _, _ => rfl
  | j + 1, s, e => by
    unfold pg_kb
    rw [pg_run_eq (j + 1) e, e j (by omega), pg_kb_eq j s (fun t ht => e t (by omega))]
/-- one store: a count; a bit -/
theorem pg_K_put0 {h2 h3 : ax_H} {c0 c1 c2 : Nat} {o : Int} {f : Int → Int} {j g : Nat} {v : Int32} (hg : g < 14) (r : pg_run f (j + 1) = 2 + 8 * (g : Int)) (n1 : c1 ≠ c0) (n2 : c2 ≠ c0) (hv : v = Int32.ofInt (f (j : Int) - 48)) (w : ∀ (k' : Nat) (i' : Int), ab_rd h3 k' i' = if k' = c0 ∧ i' = o + (g : Int) then some (.int v) else ab_rd h2 k' i') (K : pg_K h2 c0 c1 c2 o f j) : pg_K h3 c0 c1 c2 o f (j + 1) := fun s hs => by
  obtain ⟨a, b, c⟩ := K s hs
  refine ⟨?_, ?_, ?_⟩
  · rw [w]
    by_cases e : s = g
    · subst e
      rw [if_pos ⟨rfl, rfl⟩, hv, pg_k0, if_pos ⟨by rw [r]; omega, by rw [r]; omega⟩]
    · rw [if_neg (fun z => e (by have := z.2; omega)), a, pg_k0, if_neg (fun z => e (by have := z.2; rw [r] at this; omega))]
  · rw [w, if_neg (fun z => n1 z.1), b, pg_kb, if_neg (fun z => by have := z.1; rw [r] at this; omega)]
  · rw [w, if_neg (fun z => n2 z.1), c, pg_kb, if_neg (fun z => by have := z.1; rw [r] at this; omega)]
theorem pg_K_put1 {h2 h3 : ax_H} {c0 c1 c2 : Nat} {o : Int} {f : Int → Int} {j g : Nat} {v : Int32} (hg : g < 14) (r : pg_run f (j + 1) = 5 + 8 * (g : Int)) (n1 : c0 ≠ c1) (n2 : c2 ≠ c1) (hv : v = pg_kb 5 f j g ||| ((Int32.ofInt 1) <<< ((Int32.ofInt (pg_s (f (j : Int)))) &&& 31))) (w : ∀ (k' : Nat) (i' : Int), ab_rd h3 k' i' = if k' = c1 ∧ i' = o + (g : Int) then some (.int v) else ab_rd h2 k' i') (K : pg_K h2 c0 c1 c2 o f j) : pg_K h3 c0 c1 c2 o f (j + 1) := fun s hs => by
  obtain ⟨a, b, c⟩ := K s hs
  refine ⟨?_, ?_, ?_⟩
  · rw [w, if_neg (fun z => n1 z.1), a, pg_k0, if_neg (fun z => by have := z.1; rw [r] at this; omega)]
  · rw [w]
    by_cases e : s = g
    · subst e
      rw [if_pos ⟨rfl, rfl⟩, hv, pg_kb, if_pos ⟨by rw [r]; omega, by rw [r]; omega⟩]
    · rw [if_neg (fun z => e (by have := z.2; omega)), b, pg_kb, if_neg (fun z => e (by have := z.2; rw [r] at this; omega))]
  · rw [w, if_neg (fun z => n2 z.1), c, pg_kb, if_neg (fun z => by have := z.1; rw [r] at this; omega)]
theorem pg_K_put2 {h2 h3 : ax_H} {c0 c1 c2 : Nat} {o : Int} {f : Int → Int} {j g : Nat} {v : Int32} (hg : g < 14) (r : pg_run f (j + 1) = 6 + 8 * (g : Int)) (n1 : c0 ≠ c2) (n2 : c1 ≠ c2) (hv : v = pg_kb 6 f j g ||| ((Int32.ofInt 1) <<< ((Int32.ofInt (pg_s (f (j : Int)))) &&& 31))) (w : ∀ (k' : Nat) (i' : Int), ab_rd h3 k' i' = if k' = c2 ∧ i' = o + (g : Int) then some (.int v) else ab_rd h2 k' i') (K : pg_K h2 c0 c1 c2 o f j) : pg_K h3 c0 c1 c2 o f (j + 1) := fun s hs => by
  obtain ⟨a, b, c⟩ := K s hs
  refine ⟨?_, ?_, ?_⟩
  · rw [w, if_neg (fun z => n1 z.1), a, pg_k0, if_neg (fun z => by have := z.1; rw [r] at this; omega)]
  · rw [w, if_neg (fun z => n2 z.1), b, pg_kb, if_neg (fun z => by have := z.1; rw [r] at this; omega)]
  · rw [w]
    by_cases e : s = g
    · subst e
      rw [if_pos ⟨rfl, rfl⟩, hv, pg_kb, if_pos ⟨by rw [r]; omega, by rw [r]; omega⟩]
    · rw [if_neg (fun z => e (by have := z.2; omega)), c, pg_kb, if_neg (fun z => e (by have := z.2; rw [r] at this; omega))]
/-- the reference's state as one number -/
def pg_enc (st sg tw : Int) : Int := if st = 0 then 0 else if st = 5 then (if tw = 1 then 6 + 8 * sg else 5 + 8 * sg) else st + 8 * sg
/-- the reference's step -/
def pg_rm (st sg tw x s : Int) : Int := if st = 0 ∧ s ≠ -1 then 1 + 8 * s else if st = 1 ∧ 49 ≤ x ∧ x ≤ 57 then 2 + 8 * sg else if st = 1 ∧ x = 60 ∧ 1 * pg_w sg < pg_w 13 then 3 + 8 * sg else if st = 3 ∧ x = 60 ∧ 2 * pg_w sg < pg_w 13 then 4 + 8 * sg else if 3 ≤ st ∧ s ≠ -1 ∧ (tw = 1 ∧ 2 * pg_w sg < pg_w s ∨ tw ≠ 1 ∧ 1 * pg_w sg < pg_w s) then (if tw = 1 then 6 + 8 * sg else 5 + 8 * sg) else if (st = 2 ∨ st = 5) ∧ x = 44 then 0 else -1
theorem pg_sA_pos : ∀ (L : List Int) (i x : Int), (∀ t, t < L.length → 67 ≤ L.getD t 0) → pg_sA L i x ≠ -1 → 67 ≤ x
  | [], i, x, _, h => absurd rfl h
  | c :: L, i, x, hL, h => by
    unfold pg_sA at h
    split at h
    · rename_i e
      have := hL 0 (by simp)
      have e' : c = x := e
      simp at this
      omega
    · exact pg_sA_pos L (i + 1) x (fun t ht => hL (t + 1) (by simp; omega)) h
theorem pg_s_pos {x : Int} (h : pg_s x ≠ -1) : 67 ≤ x := pg_sA_pos pg_L 0 x (by decide) h
set_option maxHeartbeats 8000000 in
theorem pg_rm_ok {st sg tw x s : Int} (hs : s = pg_s x) (h0 : 0 ≤ st) (h5 : st ≤ 5) (g0 : 0 ≤ sg) (g1 : sg ≤ 13) (ht : tw = 0 ∨ tw = 1) (h3 : st = 3 → tw = 0) (h4 : st = 4 → tw = 1) : pg_after (pg_enc st sg tw) x = pg_rm st sg tw x s := by
  subst hs
  have hr := pg_s_r x
  have hp := @pg_s_pos x
  have d0 : (0 : Int) / 8 = 0 := rfl
  have m0 : (0 : Int) % 8 = 0 := rfl
  have d1 : (1 + 8 * sg) / 8 = sg := by omega
  have m1 : (1 + 8 * sg) % 8 = 1 := by omega
  have d2 : (2 + 8 * sg) / 8 = sg := by omega
  have m2 : (2 + 8 * sg) % 8 = 2 := by omega
  have d3 : (3 + 8 * sg) / 8 = sg := by omega
  have m3 : (3 + 8 * sg) % 8 = 3 := by omega
  have d4 : (4 + 8 * sg) / 8 = sg := by omega
  have m4 : (4 + 8 * sg) % 8 = 4 := by omega
  have d5 : (5 + 8 * sg) / 8 = sg := by omega
  have m5 : (5 + 8 * sg) % 8 = 5 := by omega
  have d6 : (6 + 8 * sg) / 8 = sg := by omega
  have m6 : (6 + 8 * sg) % 8 = 6 := by omega
  have hst : st = 0 ∨ st = 1 ∨ st = 2 ∨ st = 3 ∨ st = 4 ∨ st = 5 := by omega
  rcases hst with rfl | rfl | rfl | rfl | rfl | rfl <;> rcases ht with rfl | rfl <;> simp only [pg_enc, pg_after, pg_mark, pg_sign, pg_at, pg_rm, d0, m0, d1, m1, d2, m2, d3, m3, d4, m4, d5, m5, d6, m6, Int.reduceEq, Int.reduceLE, Int.reduceLT, ne_eq, true_or, or_true, false_or, or_false, true_and, and_true, false_and, and_false, not_true_eq_false, not_false_eq_true, reduceIte]
  all_goals clear d0 m0 d1 m1 d2 m2 d3 m3 d4 m4 d5 m5 d6 m6 h0 h5
  all_goals (repeat' split)
  all_goals omega
theorem pg_e0 (sg tw : Int) : pg_enc 0 sg tw = 0 := rfl
theorem pg_e1 (sg tw : Int) : pg_enc 1 sg tw = 1 + 8 * sg := rfl
theorem pg_e2 (sg tw : Int) : pg_enc 2 sg tw = 2 + 8 * sg := rfl
theorem pg_e3 (sg tw : Int) : pg_enc 3 sg tw = 3 + 8 * sg := rfl
theorem pg_e4 (sg tw : Int) : pg_enc 4 sg tw = 4 + 8 * sg := rfl
theorem pg_e5 (sg tw : Int) : pg_enc 5 sg tw = (if tw = 1 then 6 + 8 * sg else 5 + 8 * sg) := rfl
theorem pg_enc_ends {st sg tw : Int} (h0 : 0 ≤ st) (h5 : st ≤ 5) (g0 : 0 ≤ sg) : st = 2 ∨ st = 5 ↔ pg_enc st sg tw ≠ -1 ∧ (pg_enc st sg tw % 8 = 2 ∨ pg_enc st sg tw % 8 = 5 ∨ pg_enc st sg tw % 8 = 6) := by
  unfold pg_enc
  repeat' split
  all_goals omega
set_option maxRecDepth 100000 in
theorem mc_isMore {l : Launch} {G : ax_T} {d : Nat} {h : ax_H} {n : Nat} (hd : 1 ≤ d) (H : mc_HW h n) (a b t : Int32) (a0 : 0 ≤ a.toInt) (a1 : a.toInt ≤ 13) (b0 : 0 ≤ b.toInt) (b1 : b.toInt ≤ 13) : mc_M l G d mt_X11_isMore [.ref 542, .int a, .int b, .int t] h n (mc_P h n fun y => y.toInt = 1 ∧ (t.toInt ≠ 0 ∧ 2 * pg_w b.toInt < pg_w a.toInt ∨ t.toInt = 0 ∧ 1 * pg_w b.toInt < pg_w a.toInt) ∨ y.toInt = 0 ∧ ¬ (t.toInt ≠ 0 ∧ 2 * pg_w b.toInt < pg_w a.toInt ∨ t.toInt = 0 ∧ 1 * pg_w b.toInt < pg_w a.toInt)) := by
  obtain ⟨d, rfl⟩ : ∃ e, d = e + 1 := ⟨d - 1, by omega⟩
  have hmi : mt_X11_isMore ∈ mt_prog := List.mem_of_getElem? mi_X11_isMore
  refine mc_to hmi rfl ?_
  show mc_R _ _ _ _ _ (0, [(0, .ref 542), (1, .int a), (2, .int b), (3, .int t)], [], h, n, 0, 0)
  have wa := wo_i H a0 a1
  have wb := wo_i H b0 b1
  have la := pg_w_le a0 a1
  have lb := pg_w_le b0 b1
  refine mc_cx hmi 1 (F' := (1, [(0, .ref 542), (1, .int a), (2, .int b), (3, .int t)], [.ref 542], h, n, 0, 0)) (by with_unfolding_all rfl) ?_
  refine mc_getr hmi H (k := 542) (c := 543) (pc' := 4) rfl rfl rfl rfl rfl ?_
  refine mc_cx hmi 1 (F' := (5, [(0, .ref 542), (1, .int a), (2, .int b), (3, .int t)], [.int a, .ref 543], h, n, 0, 0)) (by with_unfolding_all rfl) ?_
  refine mc_iald hmi H (k := 543) (i := a.toInt) (pc' := 6) rfl rfl rfl rfl (by omega) (by omega) rfl (fun y101 e102 r103 r104 => ?_)
  rw [e102] at r103 r104
  refine mc_cx hmi 1 (F' := (7, [(0, .ref 542), (1, .int a), (2, .int b), (3, .int t)], [.int t, .int y101], h, n, 0, 0)) (by with_unfolding_all rfl) ?_
  refine mc_cz hmi (c := .eq) (tg := 14) (pc' := 10) rfl rfl rfl rfl (fun (q105 : t.toInt = 0) => ?_) (fun (q105 : t.toInt ≠ 0) => ?_)
  · refine mc_cx hmi 2 (F' := (16, [(0, .ref 542), (1, .int a), (2, .int b), (3, .int t)], [.ref 542, .int (Int32.ofInt 1), .int y101], h, n, 0, 0)) (by with_unfolding_all rfl) ?_
    refine mc_getr hmi H (k := 542) (c := 543) (pc' := 19) rfl rfl rfl rfl rfl ?_
    refine mc_cx hmi 1 (F' := (20, [(0, .ref 542), (1, .int a), (2, .int b), (3, .int t)], [.int b, .ref 543, .int (Int32.ofInt 1), .int y101], h, n, 0, 0)) (by with_unfolding_all rfl) ?_
    refine mc_iald hmi H (k := 543) (i := b.toInt) (pc' := 21) rfl rfl rfl rfl (by omega) (by omega) rfl (fun y106 e107 r108 r109 => ?_)
    rw [e107] at r108 r109
    refine mc_cx hmi 1 (F' := (22, [(0, .ref 542), (1, .int a), (2, .int b), (3, .int t)], [.int ((Int32.ofInt 1) * y106), .int y101], h, n, 0, 0)) (by with_unfolding_all rfl) ?_
    have e110 : ((Int32.ofInt 1) * y106).toInt = 1 * ab_ri h 543 (b.toInt) := mc_mul (by decide) e107 (by omega) (by omega)
    refine mc_ci hmi (c := .le) (tg := 29) (pc' := 25) rfl rfl rfl e102 e110 (fun (q111 : ab_ri h 543 (a.toInt) ≤ (1 * ab_ri h 543 (b.toInt))) => ?_) (fun (q111 : (1 * ab_ri h 543 (b.toInt)) < ab_ri h 543 (a.toInt)) => ?_)
    · refine mc_cx hmi 1 (F' := (30, [(0, .ref 542), (1, .int a), (2, .int b), (3, .int t)], [.int (Int32.ofInt 0)], h, n, 0, 0)) (by with_unfolding_all rfl) ?_
      exact mc_ret hmi rfl rfl (mc_rb (by decide)) ⟨rfl, rfl, _, rfl, Or.inr ⟨by decide, by omega⟩⟩
    · refine mc_cx hmi 2 (F' := (30, [(0, .ref 542), (1, .int a), (2, .int b), (3, .int t)], [.int (Int32.ofInt 1)], h, n, 0, 0)) (by with_unfolding_all rfl) ?_
      exact mc_ret hmi rfl rfl (mc_rb (by decide)) ⟨rfl, rfl, _, rfl, Or.inl ⟨by decide, by omega⟩⟩
  · refine mc_cx hmi 3 (F' := (16, [(0, .ref 542), (1, .int a), (2, .int b), (3, .int t)], [.ref 542, .int (Int32.ofInt 2), .int y101], h, n, 0, 0)) (by with_unfolding_all rfl) ?_
    refine mc_getr hmi H (k := 542) (c := 543) (pc' := 19) rfl rfl rfl rfl rfl ?_
    refine mc_cx hmi 1 (F' := (20, [(0, .ref 542), (1, .int a), (2, .int b), (3, .int t)], [.int b, .ref 543, .int (Int32.ofInt 2), .int y101], h, n, 0, 0)) (by with_unfolding_all rfl) ?_
    refine mc_iald hmi H (k := 543) (i := b.toInt) (pc' := 21) rfl rfl rfl rfl (by omega) (by omega) rfl (fun y112 e113 r114 r115 => ?_)
    rw [e113] at r114 r115
    refine mc_cx hmi 1 (F' := (22, [(0, .ref 542), (1, .int a), (2, .int b), (3, .int t)], [.int ((Int32.ofInt 2) * y112), .int y101], h, n, 0, 0)) (by with_unfolding_all rfl) ?_
    have e116 : ((Int32.ofInt 2) * y112).toInt = 2 * ab_ri h 543 (b.toInt) := mc_mul (by decide) e113 (by omega) (by omega)
    refine mc_ci hmi (c := .le) (tg := 29) (pc' := 25) rfl rfl rfl e102 e116 (fun (q117 : ab_ri h 543 (a.toInt) ≤ (2 * ab_ri h 543 (b.toInt))) => ?_) (fun (q117 : (2 * ab_ri h 543 (b.toInt)) < ab_ri h 543 (a.toInt)) => ?_)
    · refine mc_cx hmi 1 (F' := (30, [(0, .ref 542), (1, .int a), (2, .int b), (3, .int t)], [.int (Int32.ofInt 0)], h, n, 0, 0)) (by with_unfolding_all rfl) ?_
      exact mc_ret hmi rfl rfl (mc_rb (by decide)) ⟨rfl, rfl, _, rfl, Or.inr ⟨by decide, by omega⟩⟩
    · refine mc_cx hmi 2 (F' := (30, [(0, .ref 542), (1, .int a), (2, .int b), (3, .int t)], [.int (Int32.ofInt 1)], h, n, 0, 0)) (by with_unfolding_all rfl) ?_
      exact mc_ret hmi rfl rfl (mc_rb (by decide)) ⟨rfl, rfl, _, rfl, Or.inl ⟨by decide, by omega⟩⟩
def rc_F (h h2 : ax_H) : Prop := (∀ (k' : Nat) (i' : Int), (k' = 546 ∨ k' = 547 ∨ k' = 548 → i' < 14 * ab_ri h 542 4) → ab_rd h2 k' i' = ab_rd h k' i')
def rc_Q (h : ax_H) (n : Nat) : Option Value → ax_H → Nat → Prop := (fun r' h' n' => n' = n ∧ r' = none ∧ mc_HW h' n ∧ (∀ (k' : Nat) (i' : Int), (k' = 546 ∨ k' = 547 ∨ k' = 548 → i' < 14 * ab_ri h 542 4) → (k' = 542 → i' ≠ 25) → (k' = 542 → i' ≠ 26) → ab_rd h' k' i' = ab_rd h k' i') ∧ ab_ri h' 542 25 = (pg_good (ab_ri h 545) (ab_ri h 542 2).toNat : Int) ∧ (ab_ri h' 542 26 = 1 ∧ pg_wh (ab_ri h 545) (ab_ri h 542 2).toNat ∨ ab_ri h' 542 26 = 0 ∧ ¬ pg_wh (ab_ri h 545) (ab_ri h 542 2).toNat) ∧ (pg_wh (ab_ri h 545) (ab_ri h 542 2).toNat → ab_ri h 542 4 ≤ 5 → pg_K h' 546 547 548 (14 * ab_ri h 542 4) (ab_ri h 545) (ab_ri h 542 2).toNat))
set_option maxRecDepth 100000 in
theorem rc_end1 {l : Launch} {G : ax_T} {d : Nat} {h : ax_H} {n : Nat} {h2 : ax_H} (H : mc_HW h n) (H2 : mc_HW h2 n) (hf : rc_F h h2) (st k : Int32) (hk : k.toInt = ab_ri h 542 2) (hst : st.toInt = 2 ∨ st.toInt = 5 ↔ pg_wh (ab_ri h 545) (ab_ri h 542 2).toNat) (hne : pg_run (ab_ri h 545) (ab_ri h 542 2).toNat ≠ -1) (hK : ab_ri h 542 4 ≤ 5 → pg_K h2 546 547 548 (14 * ab_ri h 542 4) (ab_ri h 545) (ab_ri h 542 2).toNat) : mc_R l G mt_X11_readCustom d (rc_Q h n) (371, [(0, .ref 542), (3, .int st), (7, .int k)], [], h2, n, 0, 0) := by
  have hmi : mt_X11_readCustom ∈ mt_prog := List.mem_of_getElem? mi_X11_readCustom
  have hlen : 0 ≤ ab_ri h 542 2 ∧ ab_ri h 542 2 ≤ 80 := mc_frng H (k := 542) (j := 2) (ci := 11) rfl rfl
  have hl2 : ab_ri h2 542 2 = ab_ri h 542 2 := ab_ri_of (hf 542 2 (fun q => by omega))
  have hg : (pg_good (ab_ri h 545) (ab_ri h 542 2).toNat : Int) = ab_ri h 542 2 := by rw [pg_good_all _ hne]; omega
  refine mc_cx hmi 2 (F' := (374, [(0, .ref 542), (3, .int st), (7, .int k)], [.int k, .ref 542], h2, n, 0, 0)) (by with_unfolding_all rfl) ?_
  refine mc_puti hmi H2 (k := 542) (j := 25) (pc' := 377) rfl rfl rfl rfl (by rw [hk]; omega) (by rw [hk]; omega) rfl (fun h118 H119 w120 => ?_)
  refine mc_cx hmi 3 (F' := (381, [(0, .ref 542), (3, .int st), (7, .int k)], [.ref 542, .int k, .ref 542], h118, n, 0, 0)) (by with_unfolding_all rfl) ?_
  refine mc_geti hmi H119 (k := 542) (j := 2) (pc' := 384) rfl rfl rfl rfl (fun y121 (e122 : y121.toInt = ab_ri h118 542 2) r123 r124 => ?_)
  rw [e122] at r123 r124
  refine mc_ci hmi (c := .ne) (tg := 401) (pc' := 387) rfl rfl rfl hk e122 (fun (q125 : ab_ri h 542 2 ≠ ab_ri h118 542 2) => ?_) (fun (q125 : ab_ri h 542 2 = ab_ri h118 542 2) => ?_)
  · have e3 : ab_ri h118 542 2 = ab_ri h 542 2 := by rw [mc_ri w120, if_neg (fun q => absurd q.2 (by decide))]; exact hl2
    exact absurd q125 (by omega)
  · refine mc_cx hmi 2 (F' := (389, [(0, .ref 542), (3, .int st), (7, .int k)], [.int (Int32.ofInt 2), .int st, .ref 542], h118, n, 0, 0)) (by with_unfolding_all rfl) ?_
    refine mc_ci hmi (c := .eq) (tg := 397) (pc' := 392) rfl rfl rfl rfl (by decide) (fun (q126 : st.toInt = 2) => ?_) (fun (q126 : st.toInt ≠ 2) => ?_)
    · refine mc_cx hmi 2 (F' := (402, [(0, .ref 542), (3, .int st), (7, .int k)], [.int (Int32.ofInt 1), .ref 542], h118, n, 0, 0)) (by with_unfolding_all rfl) ?_
      refine mc_puti hmi H119 (k := 542) (j := 26) (pc' := 405) rfl rfl rfl rfl (by rw [show ((Int32.ofInt 1)).toInt = 1 from by decide]; omega) (by rw [show ((Int32.ofInt 1)).toInt = 1 from by decide]; omega) rfl (fun h127 H128 w129 => ?_)
      refine mc_ret hmi rfl rfl rfl ⟨rfl, rfl, H128, fun k' i' p1 p2 p3 => ?_, ?_, Or.inl ⟨?_, hst.mp (Or.inl q126)⟩, fun _ hc5 => pg_K_of (fun k i z => ?_) (hK hc5)⟩
      · rw [w129, if_neg (fun q => p3 q.1 q.2), w120, if_neg (fun q => p2 q.1 q.2)]; exact hf k' i' p1
      · rw [mc_ri w129, if_neg (fun q => absurd q.2 (by decide)), mc_ri w120, if_pos ⟨rfl, rfl⟩, hg]; exact hk
      · rw [mc_ri w129, if_pos ⟨rfl, rfl⟩]; decide
      · rw [w129, if_neg (fun q => by have := q.1; omega), w120, if_neg (fun q => by have := q.1; omega)]
    · refine mc_cx hmi 2 (F' := (394, [(0, .ref 542), (3, .int st), (7, .int k)], [.int (Int32.ofInt 5), .int st, .ref 542], h118, n, 0, 0)) (by with_unfolding_all rfl) ?_
      refine mc_ci hmi (c := .ne) (tg := 401) (pc' := 397) rfl rfl rfl rfl (by decide) (fun (q130 : st.toInt ≠ 5) => ?_) (fun (q130 : st.toInt = 5) => ?_)
      · refine mc_cx hmi 1 (F' := (402, [(0, .ref 542), (3, .int st), (7, .int k)], [.int (Int32.ofInt 0), .ref 542], h118, n, 0, 0)) (by with_unfolding_all rfl) ?_
        refine mc_puti hmi H119 (k := 542) (j := 26) (pc' := 405) rfl rfl rfl rfl (by rw [show ((Int32.ofInt 0)).toInt = 0 from by decide]; omega) (by rw [show ((Int32.ofInt 0)).toInt = 0 from by decide]; omega) rfl (fun h131 H132 w133 => ?_)
        refine mc_ret hmi rfl rfl rfl ⟨rfl, rfl, H132, fun k' i' p1 p2 p3 => ?_, ?_, Or.inr ⟨?_, fun z => (hst.mpr z).elim q126 q130⟩, fun _ hc5 => pg_K_of (fun k i z => ?_) (hK hc5)⟩
        · rw [w133, if_neg (fun q => p3 q.1 q.2), w120, if_neg (fun q => p2 q.1 q.2)]; exact hf k' i' p1
        · rw [mc_ri w133, if_neg (fun q => absurd q.2 (by decide)), mc_ri w120, if_pos ⟨rfl, rfl⟩, hg]; exact hk
        · rw [mc_ri w133, if_pos ⟨rfl, rfl⟩]; decide
        · rw [w133, if_neg (fun q => by have := q.1; omega), w120, if_neg (fun q => by have := q.1; omega)]
      · refine mc_cx hmi 2 (F' := (402, [(0, .ref 542), (3, .int st), (7, .int k)], [.int (Int32.ofInt 1), .ref 542], h118, n, 0, 0)) (by with_unfolding_all rfl) ?_
        refine mc_puti hmi H119 (k := 542) (j := 26) (pc' := 405) rfl rfl rfl rfl (by rw [show ((Int32.ofInt 1)).toInt = 1 from by decide]; omega) (by rw [show ((Int32.ofInt 1)).toInt = 1 from by decide]; omega) rfl (fun h134 H135 w136 => ?_)
        refine mc_ret hmi rfl rfl rfl ⟨rfl, rfl, H135, fun k' i' p1 p2 p3 => ?_, ?_, Or.inl ⟨?_, hst.mp (Or.inr q130)⟩, fun _ hc5 => pg_K_of (fun k i z => ?_) (hK hc5)⟩
        · rw [w136, if_neg (fun q => p3 q.1 q.2), w120, if_neg (fun q => p2 q.1 q.2)]; exact hf k' i' p1
        · rw [mc_ri w136, if_neg (fun q => absurd q.2 (by decide)), mc_ri w120, if_pos ⟨rfl, rfl⟩, hg]; exact hk
        · rw [mc_ri w136, if_pos ⟨rfl, rfl⟩]; decide
        · rw [w136, if_neg (fun q => by have := q.1; omega), w120, if_neg (fun q => by have := q.1; omega)]
set_option maxRecDepth 100000 in
theorem rc_end0 {l : Launch} {G : ax_T} {d : Nat} {h : ax_H} {n : Nat} {h2 : ax_H} (H : mc_HW h n) (H2 : mc_HW h2 n) (hf : rc_F h h2) (st k : Int32) {j : Nat} (hk : k.toInt = (j : Int)) (hj : (j : Int) < ab_ri h 542 2) (hne : pg_run (ab_ri h 545) j ≠ -1) (hd1 : pg_run (ab_ri h 545) (j + 1) = -1) : mc_R l G mt_X11_readCustom d (rc_Q h n) (371, [(0, .ref 542), (3, .int st), (7, .int k)], [], h2, n, 0, 0) := by
  have hmi : mt_X11_readCustom ∈ mt_prog := List.mem_of_getElem? mi_X11_readCustom
  have hlen : 0 ≤ ab_ri h 542 2 ∧ ab_ri h 542 2 ≤ 80 := mc_frng H (k := 542) (j := 2) (ci := 11) rfl rfl
  have hl2 : ab_ri h2 542 2 = ab_ri h 542 2 := ab_ri_of (hf 542 2 (fun q => by omega))
  have hg : (pg_good (ab_ri h 545) (ab_ri h 542 2).toNat : Int) = (j : Int) := by
    have e := pg_good_dead (ab_ri h 545) hne hd1 ((ab_ri h 542 2).toNat - j)
    rw [show j + ((ab_ri h 542 2).toNat - j) = (ab_ri h 542 2).toNat by omega] at e
    rw [e]
  have hw : ¬ pg_wh (ab_ri h 545) (ab_ri h 542 2).toNat := fun z => z.1 (by
    have e := pg_run_dead (ab_ri h 545) hd1 ((ab_ri h 542 2).toNat - (j + 1))
    rw [show j + 1 + ((ab_ri h 542 2).toNat - (j + 1)) = (ab_ri h 542 2).toNat by omega] at e
    exact e)
  refine mc_cx hmi 2 (F' := (374, [(0, .ref 542), (3, .int st), (7, .int k)], [.int k, .ref 542], h2, n, 0, 0)) (by with_unfolding_all rfl) ?_
  refine mc_puti hmi H2 (k := 542) (j := 25) (pc' := 377) rfl rfl rfl rfl (by rw [hk]; omega) (by rw [hk]; omega) rfl (fun h137 H138 w139 => ?_)
  refine mc_cx hmi 3 (F' := (381, [(0, .ref 542), (3, .int st), (7, .int k)], [.ref 542, .int k, .ref 542], h137, n, 0, 0)) (by with_unfolding_all rfl) ?_
  refine mc_geti hmi H138 (k := 542) (j := 2) (pc' := 384) rfl rfl rfl rfl (fun y140 (e141 : y140.toInt = ab_ri h137 542 2) r142 r143 => ?_)
  rw [e141] at r142 r143
  refine mc_ci hmi (c := .ne) (tg := 401) (pc' := 387) rfl rfl rfl hk e141 (fun (q144 : (j : Int) ≠ ab_ri h137 542 2) => ?_) (fun (q144 : (j : Int) = ab_ri h137 542 2) => ?_)
  · have e3 : ab_ri h137 542 2 = ab_ri h 542 2 := by rw [mc_ri w139, if_neg (fun q => absurd q.2 (by decide))]; exact hl2
    refine mc_cx hmi 1 (F' := (402, [(0, .ref 542), (3, .int st), (7, .int k)], [.int (Int32.ofInt 0), .ref 542], h137, n, 0, 0)) (by with_unfolding_all rfl) ?_
    refine mc_puti hmi H138 (k := 542) (j := 26) (pc' := 405) rfl rfl rfl rfl (by rw [show ((Int32.ofInt 0)).toInt = 0 from by decide]; omega) (by rw [show ((Int32.ofInt 0)).toInt = 0 from by decide]; omega) rfl (fun h145 H146 w147 => ?_)
    refine mc_ret hmi rfl rfl rfl ⟨rfl, rfl, H146, fun k' i' p1 p2 p3 => ?_, ?_, Or.inr ⟨?_, hw⟩, fun z => absurd z hw⟩
    · rw [w147, if_neg (fun q => p3 q.1 q.2), w139, if_neg (fun q => p2 q.1 q.2)]; exact hf k' i' p1
    · rw [mc_ri w147, if_neg (fun q => absurd q.2 (by decide)), mc_ri w139, if_pos ⟨rfl, rfl⟩, hg]; exact hk
    · rw [mc_ri w147, if_pos ⟨rfl, rfl⟩]; decide
  · have e3 : ab_ri h137 542 2 = ab_ri h 542 2 := by rw [mc_ri w139, if_neg (fun q => absurd q.2 (by decide))]; exact hl2
    exact absurd q144 (by omega)
def rc_I (h : ax_H) (j : Nat) (st sg tw : Int32) : Prop := (0 ≤ st.toInt ∧ st.toInt ≤ 5 ∧ 0 ≤ sg.toInt ∧ sg.toInt ≤ 13 ∧ (tw.toInt = 0 ∨ tw.toInt = 1) ∧ (st.toInt = 3 → tw.toInt = 0) ∧ (st.toInt = 4 → tw.toInt = 1) ∧ pg_enc st.toInt sg.toInt tw.toInt = pg_run (ab_ri h 545) j ∧ pg_run (ab_ri h 545) j ≠ -1)
set_option maxHeartbeats 16000000 in
set_option maxRecDepth 100000 in
theorem rc_loop {l : Launch} {G : ax_T} {d : Nat} {h : ax_H} {n : Nat} (hd : 2 ≤ d) (H : mc_HW h n) (a kp : Int32) (hc : 0 ≤ ab_ri h 542 4) (ha : a.toInt = 14 * ab_ri h 542 4) (hkp : (kp.toInt = 0 ∧ 6 ≤ ab_ri h 542 4 ∨ kp.toInt = 1 ∧ ab_ri h 542 4 ≤ 5)) : ∀ (c j : Nat) (h2 : ax_H) (st sg tw g k : Int32), (j : Int) + (c : Int) = ab_ri h 542 2 → k.toInt = (j : Int) → mc_HW h2 n → rc_F h h2 → g.toInt = 1 → rc_I h j st sg tw → (ab_ri h 542 4 ≤ 5 → pg_K h2 546 547 548 (14 * ab_ri h 542 4) (ab_ri h 545) j) → mc_R l G mt_X11_readCustom d (rc_Q h n) (82, [(0, .ref 542), (1, .int a), (2, .int kp), (3, .int st), (4, .int sg), (5, .int tw), (6, .int g), (7, .int k)], [], h2, n, 0, 0) := by
  have hmi : mt_X11_readCustom ∈ mt_prog := List.mem_of_getElem? mi_X11_readCustom
  have hlen : 0 ≤ ab_ri h 542 2 ∧ ab_ri h 542 2 ≤ 80 := mc_frng H (k := 542) (j := 2) (ci := 11) rfl rfl
  intro c
  induction c with
  | zero =>
    intro j h2 st sg tw g k hj hk H2 hf hg hI hK
    obtain ⟨i1, i2, i3, i4, i5, i6, i7, i8, i9⟩ := hI
    have hl2 : ab_ri h2 542 2 = ab_ri h 542 2 := ab_ri_of (hf 542 2 (fun q => by omega))
    refine mc_cx hmi 2 (F' := (85, [(0, .ref 542), (1, .int a), (2, .int kp), (3, .int st), (4, .int sg), (5, .int tw), (6, .int g), (7, .int k)], [.ref 542, .int k], h2, n, 0, 0)) (by with_unfolding_all rfl) ?_
    refine mc_geti hmi H2 (k := 542) (j := 2) (pc' := 88) rfl rfl rfl rfl (fun y148 (e149 : y148.toInt = ab_ri h2 542 2) r150 r151 => ?_)
    rw [e149] at r150 r151
    refine mc_ci hmi (c := .ge) (tg := 371) (pc' := 91) rfl rfl rfl hk e149 (fun (q152 : ab_ri h2 542 2 ≤ (j : Int)) => ?_) (fun (q152 : (j : Int) < ab_ri h2 542 2) => ?_)
    · refine mc_lvs (lv' := [(0, .ref 542), (3, .int st), (7, .int k)]) (by simp) ?_
      have e : (ab_ri h 542 2).toNat = j := by omega
      refine rc_end1 H H2 hf st k (by omega) ?_ (by rw [e]; exact i9) (by rw [e]; exact hK)
      rw [e]
      unfold pg_wh
      rw [← i8]
      exact pg_enc_ends i1 i2 i3
    · exact absurd q152 (by omega)
  | succ c ih =>
    intro j h2 st sg tw g k hj hk H2 hf hg hI hK
    obtain ⟨i1, i2, i3, i4, i5, i6, i7, i8, i9⟩ := hI
    have hl2 : ab_ri h2 542 2 = ab_ri h 542 2 := ab_ri_of (hf 542 2 (fun q => by omega))
    refine mc_cx hmi 2 (F' := (85, [(0, .ref 542), (1, .int a), (2, .int kp), (3, .int st), (4, .int sg), (5, .int tw), (6, .int g), (7, .int k)], [.ref 542, .int k], h2, n, 0, 0)) (by with_unfolding_all rfl) ?_
    refine mc_geti hmi H2 (k := 542) (j := 2) (pc' := 88) rfl rfl rfl rfl (fun y153 (e154 : y153.toInt = ab_ri h2 542 2) r155 r156 => ?_)
    rw [e154] at r155 r156
    refine mc_ci hmi (c := .ge) (tg := 371) (pc' := 91) rfl rfl rfl hk e154 (fun (q157 : ab_ri h2 542 2 ≤ (j : Int)) => ?_) (fun (q157 : (j : Int) < ab_ri h2 542 2) => ?_)
    · exact absurd q157 (by omega)
    · refine mc_cx hmi 1 (F' := (93, [(0, .ref 542), (1, .int a), (2, .int kp), (3, .int st), (4, .int sg), (5, .int tw), (6, .int g), (7, .int k)], [.int g], h2, n, 0, 0)) (by with_unfolding_all rfl) ?_
      refine mc_cz hmi (c := .eq) (tg := 371) (pc' := 96) rfl rfl rfl hg (fun (q158 : (1 : Int) = 0) => ?_) (fun (q158 : (1 : Int) ≠ 0) => ?_)
      · exact absurd q158 (by decide)
      · refine mc_cx hmi 1 (F' := (97, [(0, .ref 542), (1, .int a), (2, .int kp), (3, .int st), (4, .int sg), (5, .int tw), (6, .int g), (7, .int k)], [.ref 542], h2, n, 0, 0)) (by with_unfolding_all rfl) ?_
        refine mc_getr hmi H2 (k := 542) (c := 545) (pc' := 100) rfl rfl rfl rfl rfl ?_
        refine mc_cx hmi 1 (F' := (102, [(0, .ref 542), (1, .int a), (2, .int kp), (3, .int st), (4, .int sg), (5, .int tw), (6, .int g), (7, .int k)], [.int k, .ref 545], h2, n, 0, 0)) (by with_unfolding_all rfl) ?_
        refine mc_bald hmi H2 (k := 545) (i := (j : Int)) (pc' := 103) rfl rfl rfl hk (by omega) (by omega) rfl (fun y159 e160 r161 r162 => ?_)
        rw [e160] at r161 r162
        refine mc_cx hmi 3 (F' := (108, [(8, .int y159), (0, .ref 542), (1, .int a), (2, .int kp), (3, .int st), (4, .int sg), (5, .int tw), (6, .int g), (7, .int k)], [.int y159, .ref 542], h2, n, 0, 0)) (by with_unfolding_all rfl) ?_
        refine mc_callP hmi (en := (108, .invokevirtual 116, 3, (3, 155, 11, 0), [1288, 76, 1286])) rfl (q := (mt_X11_signOf, [.ref 542, .int y159], [])) (mc_inv H2 (as := [.int y159]) (rest := []) rfl (by with_unfolding_all rfl) rfl rfl rfl) ⟨rfl, rfl⟩ (pc' := 111) rfl (mc_signOfE (by omega) H2 y159) (fun y163 e164 => ?_)
        have hx : y159.toInt = (ab_ri h 545) (j : Int) := by rw [e160]; exact ab_ri_of (hf 545 _ (fun q => by omega))
        rw [hx] at e164
        generalize hX : (ab_ri h 545) (j : Int) = x at hx e164
        have hstep : pg_run (ab_ri h 545) (j + 1) = pg_rm st.toInt sg.toInt tw.toInt x y163.toInt := by
          rw [← pg_rm_ok e164 i1 i2 i3 i4 i5 i6 i7, i8, ← hX]
          show (if pg_run (ab_ri h 545) j = -1 then -1 else _) = _
          rw [if_neg i9]
        have hsr := pg_s_r x
        rw [← e164] at hsr
        have k353 : ∀ (h3 : ax_H) (st1 sg1 tw1 g1 : Int32), mc_HW h3 n → rc_F h h3 → (g1.toInt = 1 ∧ rc_I h (j + 1) st1 sg1 tw1 ∧ (ab_ri h 542 4 ≤ 5 → pg_K h3 546 547 548 (14 * ab_ri h 542 4) (ab_ri h 545) (j + 1)) ∨ g1.toInt = 0 ∧ pg_run (ab_ri h 545) (j + 1) = -1) → mc_R l G mt_X11_readCustom d (rc_Q h n) (353, [(0, .ref 542), (1, .int a), (2, .int kp), (3, .int st1), (4, .int sg1), (5, .int tw1), (6, .int g1), (7, .int k)], [], h3, n, 0, 0) := by
          intro h3 st1 sg1 tw1 g1 H3 hf3 hI3
          refine mc_cx hmi 2 (F' := (357, [(0, .ref 542), (1, .int a), (2, .int kp), (3, .int st1), (4, .int sg1), (5, .int tw1), (6, .int g1), (7, .int k)], [.int g1, .int k], h3, n, 0, 0)) (by with_unfolding_all rfl) ?_
          refine mc_cz hmi (c := .eq) (tg := 364) (pc' := 360) rfl rfl rfl rfl (fun (q165 : g1.toInt = 0) => ?_) (fun (q165 : g1.toInt ≠ 0) => ?_)
          · have hdead := hI3.elim (fun q => absurd q.1 (by omega)) (fun q => q.2)
            have hl3 : ab_ri h3 542 2 = ab_ri h 542 2 := ab_ri_of (hf3 542 2 (fun q => by omega))
            refine mc_cx hmi 4 (F' := (82, [(7, .int (k + (Int32.ofInt 0))), (0, .ref 542), (1, .int a), (2, .int kp), (3, .int st1), (4, .int sg1), (5, .int tw1), (6, .int g1)], [], h3, n, 0, 0)) (by with_unfolding_all rfl) ?_
            have e166 : (k + (Int32.ofInt 0)).toInt = (j : Int) + 0 := mc_add hk (by decide) (by omega) (by omega)
            refine mc_cx hmi 2 (F' := (85, [(7, .int (k + (Int32.ofInt 0))), (0, .ref 542), (1, .int a), (2, .int kp), (3, .int st1), (4, .int sg1), (5, .int tw1), (6, .int g1)], [.ref 542, .int (k + (Int32.ofInt 0))], h3, n, 0, 0)) (by with_unfolding_all rfl) ?_
            refine mc_geti hmi H3 (k := 542) (j := 2) (pc' := 88) rfl rfl rfl rfl (fun y167 (e168 : y167.toInt = ab_ri h3 542 2) r169 r170 => ?_)
            rw [e168] at r169 r170
            refine mc_ci hmi (c := .ge) (tg := 371) (pc' := 91) rfl rfl rfl e166 e168 (fun (q171 : ab_ri h3 542 2 ≤ ((j : Int) + 0)) => ?_) (fun (q171 : ((j : Int) + 0) < ab_ri h3 542 2) => ?_)
            · exact absurd q171 (by omega)
            · refine mc_cx hmi 1 (F' := (93, [(7, .int (k + (Int32.ofInt 0))), (0, .ref 542), (1, .int a), (2, .int kp), (3, .int st1), (4, .int sg1), (5, .int tw1), (6, .int g1)], [.int g1], h3, n, 0, 0)) (by with_unfolding_all rfl) ?_
              refine mc_cz hmi (c := .eq) (tg := 371) (pc' := 96) rfl rfl rfl rfl (fun (q172 : g1.toInt = 0) => ?_) (fun (q172 : g1.toInt ≠ 0) => ?_)
              · refine mc_lvs (lv' := [(0, .ref 542), (3, .int st1), (7, .int (k + (Int32.ofInt 0)))]) (by simp) ?_
                exact rc_end0 H H3 hf3 st1 (k + (Int32.ofInt 0)) (j := j) (by rw [e166]; omega) (by omega) i9 hdead
              · exact absurd q165 q172
          · have hI4 := hI3.elim (fun q => q) (fun q => absurd q.1 q165)
            refine mc_cx hmi 5 (F' := (82, [(7, .int (k + (Int32.ofInt 1))), (0, .ref 542), (1, .int a), (2, .int kp), (3, .int st1), (4, .int sg1), (5, .int tw1), (6, .int g1)], [], h3, n, 0, 0)) (by with_unfolding_all rfl) ?_
            have e173 : (k + (Int32.ofInt 1)).toInt = (j : Int) + 1 := mc_add hk (by decide) (by omega) (by omega)
            refine mc_lvs (lv' := [(0, .ref 542), (1, .int a), (2, .int kp), (3, .int st1), (4, .int sg1), (5, .int tw1), (6, .int g1), (7, .int (k + (Int32.ofInt 1)))]) (by simp) ?_
            exact ih (j + 1) h3 st1 sg1 tw1 g1 (k + (Int32.ofInt 1)) (by omega) (by rw [e173]; omega) H3 hf3 hI4.1 hI4.2.1 hI4.2.2
        have k138 : ¬ (st.toInt = 0 ∧ y163.toInt ≠ -1) → mc_R l G mt_X11_readCustom d (rc_Q h n) (138, [(0, .ref 542), (1, .int a), (2, .int kp), (3, .int st), (4, .int sg), (5, .int tw), (6, .int (Int32.ofInt 0)), (7, .int k), (8, .int y159), (9, .int y163)], [], h2, n, 0, 0) := by
          intro n0
          have k331 : ¬ (st.toInt = 0 ∧ y163.toInt ≠ -1) → ¬ (st.toInt = 1 ∧ 49 ≤ x ∧ x ≤ 57) → ¬ (st.toInt = 1 ∧ x = 60 ∧ 1 * pg_w sg.toInt < pg_w 13) → ¬ (st.toInt = 3 ∧ x = 60 ∧ 2 * pg_w sg.toInt < pg_w 13) → ¬ (3 ≤ st.toInt ∧ y163.toInt ≠ -1 ∧ (tw.toInt = 1 ∧ 2 * pg_w sg.toInt < pg_w y163.toInt ∨ tw.toInt ≠ 1 ∧ 1 * pg_w sg.toInt < pg_w y163.toInt)) → mc_R l G mt_X11_readCustom d (rc_Q h n) (331, [(0, .ref 542), (1, .int a), (2, .int kp), (3, .int st), (4, .int sg), (5, .int tw), (6, .int (Int32.ofInt 0)), (7, .int k), (8, .int y159), (9, .int y163)], [], h2, n, 0, 0) := by
            intro n1 n2 n3 n4 n5
            refine mc_cx hmi 2 (F' := (333, [(0, .ref 542), (1, .int a), (2, .int kp), (3, .int st), (4, .int sg), (5, .int tw), (6, .int (Int32.ofInt 0)), (7, .int k), (8, .int y159), (9, .int y163)], [.int (Int32.ofInt 2), .int st], h2, n, 0, 0)) (by with_unfolding_all rfl) ?_
            refine mc_ci hmi (c := .eq) (tg := 341) (pc' := 336) rfl rfl rfl rfl (by decide) (fun (q174 : st.toInt = 2) => ?_) (fun (q174 : st.toInt ≠ 2) => ?_)
            · refine mc_cx hmi 2 (F' := (345, [(0, .ref 542), (1, .int a), (2, .int kp), (3, .int st), (4, .int sg), (5, .int tw), (6, .int (Int32.ofInt 0)), (7, .int k), (8, .int y159), (9, .int y163)], [.int (Int8.ofInt 44).toInt32, .int y159], h2, n, 0, 0)) (by with_unfolding_all rfl) ?_
              refine mc_ci hmi (c := .ne) (tg := 353) (pc' := 348) rfl rfl rfl hx (by decide) (fun (q175 : x ≠ 44) => ?_) (fun (q175 : x = 44) => ?_)
              · refine mc_lvs (lv' := [(0, .ref 542), (1, .int a), (2, .int kp), (3, .int st), (4, .int sg), (5, .int tw), (6, .int (Int32.ofInt 0)), (7, .int k)]) (by simp) ?_
                unfold pg_rm at hstep
                rw [if_neg n1, if_neg n2, if_neg n3, if_neg n4, if_neg n5, if_neg (fun z => q175 z.2)] at hstep
                exact k353 h2 st sg tw (Int32.ofInt 0) H2 hf (Or.inr ⟨by decide, hstep⟩)
              · refine mc_cx hmi 4 (F' := (353, [(6, .int (Int32.ofInt 1)), (3, .int (Int32.ofInt 0)), (0, .ref 542), (1, .int a), (2, .int kp), (4, .int sg), (5, .int tw), (7, .int k), (8, .int y159), (9, .int y163)], [], h2, n, 0, 0)) (by with_unfolding_all rfl) ?_
                refine mc_lvs (lv' := [(0, .ref 542), (1, .int a), (2, .int kp), (3, .int (Int32.ofInt 0)), (4, .int sg), (5, .int tw), (6, .int (Int32.ofInt 1)), (7, .int k)]) (by simp) ?_
                unfold pg_rm at hstep
                rw [if_neg n1, if_neg n2, if_neg n3, if_neg n4, if_neg n5, if_pos (And.intro (Or.inl q174) q175)] at hstep
                refine k353 h2 (Int32.ofInt 0) sg tw (Int32.ofInt 1) H2 hf (Or.inl ⟨by decide, ?_, fun hc5 => pg_K_same (by rw [hstep]; omega) (by rw [hstep]; omega) (by rw [hstep]; omega) (hK hc5)⟩)
                exact ⟨by decide, by decide, i3, i4, i5, fun q => absurd q (by decide), fun q => absurd q (by decide), by rw [hstep]; exact pg_e0 _ _, by omega⟩
            · refine mc_cx hmi 2 (F' := (338, [(0, .ref 542), (1, .int a), (2, .int kp), (3, .int st), (4, .int sg), (5, .int tw), (6, .int (Int32.ofInt 0)), (7, .int k), (8, .int y159), (9, .int y163)], [.int (Int32.ofInt 5), .int st], h2, n, 0, 0)) (by with_unfolding_all rfl) ?_
              refine mc_ci hmi (c := .ne) (tg := 353) (pc' := 341) rfl rfl rfl rfl (by decide) (fun (q176 : st.toInt ≠ 5) => ?_) (fun (q176 : st.toInt = 5) => ?_)
              · refine mc_lvs (lv' := [(0, .ref 542), (1, .int a), (2, .int kp), (3, .int st), (4, .int sg), (5, .int tw), (6, .int (Int32.ofInt 0)), (7, .int k)]) (by simp) ?_
                unfold pg_rm at hstep
                rw [if_neg n1, if_neg n2, if_neg n3, if_neg n4, if_neg n5, if_neg (fun z => z.1.elim q174 q176)] at hstep
                exact k353 h2 st sg tw (Int32.ofInt 0) H2 hf (Or.inr ⟨by decide, hstep⟩)
              · refine mc_cx hmi 2 (F' := (345, [(0, .ref 542), (1, .int a), (2, .int kp), (3, .int st), (4, .int sg), (5, .int tw), (6, .int (Int32.ofInt 0)), (7, .int k), (8, .int y159), (9, .int y163)], [.int (Int8.ofInt 44).toInt32, .int y159], h2, n, 0, 0)) (by with_unfolding_all rfl) ?_
                refine mc_ci hmi (c := .ne) (tg := 353) (pc' := 348) rfl rfl rfl hx (by decide) (fun (q177 : x ≠ 44) => ?_) (fun (q177 : x = 44) => ?_)
                · refine mc_lvs (lv' := [(0, .ref 542), (1, .int a), (2, .int kp), (3, .int st), (4, .int sg), (5, .int tw), (6, .int (Int32.ofInt 0)), (7, .int k)]) (by simp) ?_
                  unfold pg_rm at hstep
                  rw [if_neg n1, if_neg n2, if_neg n3, if_neg n4, if_neg n5, if_neg (fun z => q177 z.2)] at hstep
                  exact k353 h2 st sg tw (Int32.ofInt 0) H2 hf (Or.inr ⟨by decide, hstep⟩)
                · refine mc_cx hmi 4 (F' := (353, [(6, .int (Int32.ofInt 1)), (3, .int (Int32.ofInt 0)), (0, .ref 542), (1, .int a), (2, .int kp), (4, .int sg), (5, .int tw), (7, .int k), (8, .int y159), (9, .int y163)], [], h2, n, 0, 0)) (by with_unfolding_all rfl) ?_
                  refine mc_lvs (lv' := [(0, .ref 542), (1, .int a), (2, .int kp), (3, .int (Int32.ofInt 0)), (4, .int sg), (5, .int tw), (6, .int (Int32.ofInt 1)), (7, .int k)]) (by simp) ?_
                  unfold pg_rm at hstep
                  rw [if_neg n1, if_neg n2, if_neg n3, if_neg n4, if_neg n5, if_pos (And.intro (Or.inr q176) q177)] at hstep
                  refine k353 h2 (Int32.ofInt 0) sg tw (Int32.ofInt 1) H2 hf (Or.inl ⟨by decide, ?_, fun hc5 => pg_K_same (by rw [hstep]; omega) (by rw [hstep]; omega) (by rw [hstep]; omega) (hK hc5)⟩)
                  exact ⟨by decide, by decide, i3, i4, i5, fun q => absurd q (by decide), fun q => absurd q (by decide), by rw [hstep]; exact pg_e0 _ _, by omega⟩
          have k251 : ¬ (st.toInt = 0 ∧ y163.toInt ≠ -1) → ¬ (st.toInt = 1 ∧ 49 ≤ x ∧ x ≤ 57) → ¬ (st.toInt = 1 ∧ x = 60 ∧ 1 * pg_w sg.toInt < pg_w 13) → ¬ (st.toInt = 3 ∧ x = 60 ∧ 2 * pg_w sg.toInt < pg_w 13) → mc_R l G mt_X11_readCustom d (rc_Q h n) (251, [(0, .ref 542), (1, .int a), (2, .int kp), (3, .int st), (4, .int sg), (5, .int tw), (6, .int (Int32.ofInt 0)), (7, .int k), (8, .int y159), (9, .int y163)], [], h2, n, 0, 0) := by
            intro n1 n2 n3 n4
            refine mc_cx hmi 2 (F' := (253, [(0, .ref 542), (1, .int a), (2, .int kp), (3, .int st), (4, .int sg), (5, .int tw), (6, .int (Int32.ofInt 0)), (7, .int k), (8, .int y159), (9, .int y163)], [.int (Int32.ofInt 3), .int st], h2, n, 0, 0)) (by with_unfolding_all rfl) ?_
            refine mc_ci hmi (c := .lt) (tg := 331) (pc' := 256) rfl rfl rfl rfl (by decide) (fun (q178 : st.toInt < 3) => ?_) (fun (q178 : 3 ≤ st.toInt) => ?_)
            · exact k331 n1 n2 n3 n4 (fun z => absurd z.1 (Int.not_le.mpr q178))
            · refine mc_cx hmi 2 (F' := (259, [(0, .ref 542), (1, .int a), (2, .int kp), (3, .int st), (4, .int sg), (5, .int tw), (6, .int (Int32.ofInt 0)), (7, .int k), (8, .int y159), (9, .int y163)], [.int (Int32.ofInt (-1)), .int y163], h2, n, 0, 0)) (by with_unfolding_all rfl) ?_
              refine mc_ci hmi (c := .eq) (tg := 331) (pc' := 262) rfl rfl rfl rfl (by decide) (fun (q179 : y163.toInt = (-1)) => ?_) (fun (q179 : y163.toInt ≠ (-1)) => ?_)
              · exact k331 n1 n2 n3 n4 (fun z => z.2.1 q179)
              · refine mc_cx hmi 4 (F' := (269, [(0, .ref 542), (1, .int a), (2, .int kp), (3, .int st), (4, .int sg), (5, .int tw), (6, .int (Int32.ofInt 0)), (7, .int k), (8, .int y159), (9, .int y163)], [.int tw, .int sg, .int y163, .ref 542], h2, n, 0, 0)) (by with_unfolding_all rfl) ?_
                refine mc_callP hmi (en := (269, .invokevirtual 124, 3, (3, 157, 11, 0), [1295, 77, 1293])) rfl (q := (mt_X11_isMore, [.ref 542, .int y163, .int sg, .int tw], [])) (mc_inv H2 (as := [.int y163, .int sg, .int tw]) (rest := []) rfl (by with_unfolding_all rfl) rfl rfl rfl) ⟨rfl, rfl⟩ (pc' := 272) rfl (mc_isMore (by omega) H2 y163 sg tw (by omega) (by omega) i3 i4) (fun y180 e181 => ?_)
                refine mc_cz hmi (c := .eq) (tg := 331) (pc' := 275) rfl rfl rfl rfl (fun (q182 : y180.toInt = 0) => ?_) (fun (q182 : y180.toInt ≠ 0) => ?_)
                · exact k331 n1 n2 n3 n4 (fun z => e181.elim (fun u => absurd u.1 (by rw [q182]; decide)) (fun u => u.2 (z.2.2.elim (fun v => Or.inl ⟨by rw [v.1]; decide, v.2⟩) (fun v => Or.inr ⟨i5.elim id (fun w => absurd w v.1), v.2⟩))))
                · have hmore : tw.toInt = 1 ∧ 2 * pg_w sg.toInt < pg_w y163.toInt ∨ tw.toInt ≠ 1 ∧ 1 * pg_w sg.toInt < pg_w y163.toInt := e181.elim (fun u => u.2.elim (fun v => Or.inl ⟨i5.elim (fun w => absurd w v.1) id, v.2⟩) (fun v => Or.inr ⟨by rw [v.1]; decide, v.2⟩)) (fun u => absurd u.1 q182)
                  unfold pg_rm at hstep
                  rw [if_neg n1, if_neg n2, if_neg n3, if_neg n4, if_pos (And.intro q178 (And.intro q179 hmore))] at hstep
                  have hyx : y163 = Int32.ofInt (pg_s x) := by rw [← e164, Int32.ofInt_toInt]
                  obtain ⟨gs, hgs, hge⟩ : ∃ gs : Nat, gs < 14 ∧ (gs : Int) = sg.toInt := ⟨sg.toInt.toNat, by omega, by omega⟩
                  have k323 : ∀ h3 : ax_H, mc_HW h3 n → rc_F h h3 → (ab_ri h 542 4 ≤ 5 → pg_K h3 546 547 548 (14 * ab_ri h 542 4) (ab_ri h 545) (j + 1)) → mc_R l G mt_X11_readCustom d (rc_Q h n) (323, [(0, .ref 542), (1, .int a), (2, .int kp), (3, .int st), (4, .int sg), (5, .int tw), (6, .int (Int32.ofInt 0)), (7, .int k), (8, .int y159), (9, .int y163)], [], h3, n, 0, 0) := by
                    intro h3 H3 hf3 hK3
                    refine mc_cx hmi 5 (F' := (353, [(6, .int (Int32.ofInt 1)), (3, .int (Int32.ofInt 5)), (0, .ref 542), (1, .int a), (2, .int kp), (4, .int sg), (5, .int tw), (7, .int k), (8, .int y159), (9, .int y163)], [], h3, n, 0, 0)) (by with_unfolding_all rfl) ?_
                    refine mc_lvs (lv' := [(0, .ref 542), (1, .int a), (2, .int kp), (3, .int (Int32.ofInt 5)), (4, .int sg), (5, .int tw), (6, .int (Int32.ofInt 1)), (7, .int k)]) (by simp) ?_
                    refine k353 h3 (Int32.ofInt 5) sg tw (Int32.ofInt 1) H3 hf3 (Or.inl ⟨by decide, ?_, hK3⟩)
                    exact ⟨by decide, by decide, i3, i4, i5, fun q => absurd q (by decide), fun q => absurd q (by decide), by rw [hstep]; exact pg_e5 _ _, by rw [hstep]; split <;> omega⟩
                  refine mc_cx hmi 1 (F' := (276, [(0, .ref 542), (1, .int a), (2, .int kp), (3, .int st), (4, .int sg), (5, .int tw), (6, .int (Int32.ofInt 0)), (7, .int k), (8, .int y159), (9, .int y163)], [.int kp], h2, n, 0, 0)) (by with_unfolding_all rfl) ?_
                  refine mc_cz hmi (c := .eq) (tg := 303) (pc' := 279) rfl rfl rfl rfl (fun (q183 : kp.toInt = 0) => ?_) (fun (q183 : kp.toInt ≠ 0) => ?_)
                  · refine mc_cx hmi 1 (F' := (304, [(0, .ref 542), (1, .int a), (2, .int kp), (3, .int st), (4, .int sg), (5, .int tw), (6, .int (Int32.ofInt 0)), (7, .int k), (8, .int y159), (9, .int y163)], [.int kp], h2, n, 0, 0)) (by with_unfolding_all rfl) ?_
                    refine mc_cz hmi (c := .eq) (tg := 323) (pc' := 307) rfl rfl rfl rfl (fun (q184 : kp.toInt = 0) => ?_) (fun (q184 : kp.toInt ≠ 0) => ?_)
                    · refine mc_lvs (lv' := [(0, .ref 542), (1, .int a), (2, .int kp), (3, .int st), (4, .int sg), (5, .int tw), (6, .int (Int32.ofInt 0)), (7, .int k), (8, .int y159), (9, .int y163)]) (by simp) ?_
                      exact k323 h2 H2 hf (fun hc5 => hkp.elim (fun u => absurd (Int.le_trans u.2 hc5) (by decide)) (fun u => absurd u.1 (by rw [q184]; decide)))
                    · exact absurd q183 q184
                  · refine mc_cx hmi 1 (F' := (281, [(0, .ref 542), (1, .int a), (2, .int kp), (3, .int st), (4, .int sg), (5, .int tw), (6, .int (Int32.ofInt 0)), (7, .int k), (8, .int y159), (9, .int y163)], [.int tw], h2, n, 0, 0)) (by with_unfolding_all rfl) ?_
                    refine mc_cz hmi (c := .eq) (tg := 303) (pc' := 284) rfl rfl rfl rfl (fun (q185 : tw.toInt = 0) => ?_) (fun (q185 : tw.toInt ≠ 0) => ?_)
                    · refine mc_cx hmi 1 (F' := (304, [(0, .ref 542), (1, .int a), (2, .int kp), (3, .int st), (4, .int sg), (5, .int tw), (6, .int (Int32.ofInt 0)), (7, .int k), (8, .int y159), (9, .int y163)], [.int kp], h2, n, 0, 0)) (by with_unfolding_all rfl) ?_
                      refine mc_cz hmi (c := .eq) (tg := 323) (pc' := 307) rfl rfl rfl rfl (fun (q186 : kp.toInt = 0) => ?_) (fun (q186 : kp.toInt ≠ 0) => ?_)
                      · refine mc_lvs (lv' := [(0, .ref 542), (1, .int a), (2, .int kp), (3, .int st), (4, .int sg), (5, .int tw), (6, .int (Int32.ofInt 0)), (7, .int k), (8, .int y159), (9, .int y163)]) (by simp) ?_
                        exact k323 h2 H2 hf (fun hc5 => hkp.elim (fun u => absurd (Int.le_trans u.2 hc5) (by decide)) (fun u => absurd u.1 (by rw [q186]; decide)))
                      · have hc5 : ab_ri h 542 4 ≤ 5 := hkp.elim (fun u => absurd u.1 q186) (fun u => u.2)
                        have hr : pg_run (ab_ri h 545) (j + 1) = 5 + 8 * (gs : Int) := by rw [hstep, if_neg (by rw [q185]; decide), hge]
                        refine mc_cx hmi 1 (F' := (308, [(0, .ref 542), (1, .int a), (2, .int kp), (3, .int st), (4, .int sg), (5, .int tw), (6, .int (Int32.ofInt 0)), (7, .int k), (8, .int y159), (9, .int y163)], [.ref 542], h2, n, 0, 0)) (by with_unfolding_all rfl) ?_
                        refine mc_getr hmi H2 (k := 542) (c := 547) (pc' := 311) rfl rfl rfl rfl rfl ?_
                        refine mc_cx hmi 4 (F' := (316, [(0, .ref 542), (1, .int a), (2, .int kp), (3, .int st), (4, .int sg), (5, .int tw), (6, .int (Int32.ofInt 0)), (7, .int k), (8, .int y159), (9, .int y163)], [.int (a + sg), .ref 547, .int (a + sg), .ref 547], h2, n, 0, 0)) (by with_unfolding_all rfl) ?_
                        have e187 : (a + sg).toInt = (14 * ab_ri h 542 4) + sg.toInt := mc_add ha rfl (by omega) (by omega)
                        refine mc_iald hmi H2 (k := 547) (i := ((14 * ab_ri h 542 4) + sg.toInt)) (pc' := 317) rfl rfl rfl e187 (by omega) (by omega) rfl (fun y188 e189 r190 r191 => ?_)
                        rw [e189] at r190 r191
                        have hold : y188 = pg_kb 5 (ab_ri h 545) j gs := by
                          refine Int32.toInt_inj.mp ?_
                          rw [e189, ← hge]
                          exact ri_of (hK hc5 gs hgs).2.1
                        refine mc_cx hmi 4 (F' := (322, [(0, .ref 542), (1, .int a), (2, .int kp), (3, .int st), (4, .int sg), (5, .int tw), (6, .int (Int32.ofInt 0)), (7, .int k), (8, .int y159), (9, .int y163)], [.int (y188 ||| ((Int32.ofInt 1) <<< (y163 &&& 31))), .int (a + sg), .ref 547], h2, n, 0, 0)) (by with_unfolding_all rfl) ?_
                        have b192 := Int32.le_toInt ((y188 ||| ((Int32.ofInt 1) <<< (y163 &&& 31))))
                        have b193 := Int32.toInt_lt ((y188 ||| ((Int32.ofInt 1) <<< (y163 &&& 31))))
                        refine mc_iast hmi H2 (k := 547) (i := ((14 * ab_ri h 542 4) + sg.toInt)) (pc' := 323) rfl rfl rfl e187 (by omega) (by omega) (by rw [show ((y188 ||| ((Int32.ofInt 1) <<< (y163 &&& 31)))).toInt = ((y188 ||| ((Int32.ofInt 1) <<< (y163 &&& 31)))).toInt from rfl]; omega) (by rw [show ((y188 ||| ((Int32.ofInt 1) <<< (y163 &&& 31)))).toInt = ((y188 ||| ((Int32.ofInt 1) <<< (y163 &&& 31)))).toInt from rfl]; omega) rfl (fun h194 H195 w196 => ?_)
                        refine mc_lvs (lv' := [(0, .ref 542), (1, .int a), (2, .int kp), (3, .int st), (4, .int sg), (5, .int tw), (6, .int (Int32.ofInt 0)), (7, .int k), (8, .int y159), (9, .int y163)]) (by simp) ?_
                        refine k323 h194 H195 (fun k' i' p1 => by rw [w196, if_neg (fun q => by have := p1 (by omega); have := q.2; omega)]; exact hf k' i' p1) (fun _ => pg_K_put1 (v := (y188 ||| ((Int32.ofInt 1) <<< (y163 &&& 31)))) hgs hr (by decide) (by decide) ?_ (by rw [hge]; exact w196) (hK hc5))
                        rw [hold, hyx, hX]
                    · have hc5 : ab_ri h 542 4 ≤ 5 := hkp.elim (fun u => absurd u.1 q183) (fun u => u.2)
                      have hr : pg_run (ab_ri h 545) (j + 1) = 6 + 8 * (gs : Int) := by rw [hstep, if_pos (i5.elim (fun w => absurd w q185) id), hge]
                      refine mc_cx hmi 1 (F' := (285, [(0, .ref 542), (1, .int a), (2, .int kp), (3, .int st), (4, .int sg), (5, .int tw), (6, .int (Int32.ofInt 0)), (7, .int k), (8, .int y159), (9, .int y163)], [.ref 542], h2, n, 0, 0)) (by with_unfolding_all rfl) ?_
                      refine mc_getr hmi H2 (k := 542) (c := 548) (pc' := 288) rfl rfl rfl rfl rfl ?_
                      refine mc_cx hmi 4 (F' := (293, [(0, .ref 542), (1, .int a), (2, .int kp), (3, .int st), (4, .int sg), (5, .int tw), (6, .int (Int32.ofInt 0)), (7, .int k), (8, .int y159), (9, .int y163)], [.int (a + sg), .ref 548, .int (a + sg), .ref 548], h2, n, 0, 0)) (by with_unfolding_all rfl) ?_
                      have e197 : (a + sg).toInt = (14 * ab_ri h 542 4) + sg.toInt := mc_add ha rfl (by omega) (by omega)
                      refine mc_iald hmi H2 (k := 548) (i := ((14 * ab_ri h 542 4) + sg.toInt)) (pc' := 294) rfl rfl rfl e197 (by omega) (by omega) rfl (fun y198 e199 r200 r201 => ?_)
                      rw [e199] at r200 r201
                      have hold : y198 = pg_kb 6 (ab_ri h 545) j gs := by
                        refine Int32.toInt_inj.mp ?_
                        rw [e199, ← hge]
                        exact ri_of (hK hc5 gs hgs).2.2
                      refine mc_cx hmi 4 (F' := (299, [(0, .ref 542), (1, .int a), (2, .int kp), (3, .int st), (4, .int sg), (5, .int tw), (6, .int (Int32.ofInt 0)), (7, .int k), (8, .int y159), (9, .int y163)], [.int (y198 ||| ((Int32.ofInt 1) <<< (y163 &&& 31))), .int (a + sg), .ref 548], h2, n, 0, 0)) (by with_unfolding_all rfl) ?_
                      have b202 := Int32.le_toInt ((y198 ||| ((Int32.ofInt 1) <<< (y163 &&& 31))))
                      have b203 := Int32.toInt_lt ((y198 ||| ((Int32.ofInt 1) <<< (y163 &&& 31))))
                      refine mc_iast hmi H2 (k := 548) (i := ((14 * ab_ri h 542 4) + sg.toInt)) (pc' := 300) rfl rfl rfl e197 (by omega) (by omega) (by rw [show ((y198 ||| ((Int32.ofInt 1) <<< (y163 &&& 31)))).toInt = ((y198 ||| ((Int32.ofInt 1) <<< (y163 &&& 31)))).toInt from rfl]; omega) (by rw [show ((y198 ||| ((Int32.ofInt 1) <<< (y163 &&& 31)))).toInt = ((y198 ||| ((Int32.ofInt 1) <<< (y163 &&& 31)))).toInt from rfl]; omega) rfl (fun h204 H205 w206 => ?_)
                      refine mc_cx hmi 1 (F' := (323, [(0, .ref 542), (1, .int a), (2, .int kp), (3, .int st), (4, .int sg), (5, .int tw), (6, .int (Int32.ofInt 0)), (7, .int k), (8, .int y159), (9, .int y163)], [], h204, n, 0, 0)) (by with_unfolding_all rfl) ?_
                      refine mc_lvs (lv' := [(0, .ref 542), (1, .int a), (2, .int kp), (3, .int st), (4, .int sg), (5, .int tw), (6, .int (Int32.ofInt 0)), (7, .int k), (8, .int y159), (9, .int y163)]) (by simp) ?_
                      refine k323 h204 H205 (fun k' i' p1 => by rw [w206, if_neg (fun q => by have := p1 (by omega); have := q.2; omega)]; exact hf k' i' p1) (fun _ => pg_K_put2 (v := (y198 ||| ((Int32.ofInt 1) <<< (y163 &&& 31)))) hgs hr (by decide) (by decide) ?_ (by rw [hge]; exact w206) (hK hc5))
                      rw [hold, hyx, hX]
          have k216 : ¬ (st.toInt = 0 ∧ y163.toInt ≠ -1) → ¬ (st.toInt = 1 ∧ 49 ≤ x ∧ x ≤ 57) → ¬ (st.toInt = 1 ∧ x = 60 ∧ 1 * pg_w sg.toInt < pg_w 13) → mc_R l G mt_X11_readCustom d (rc_Q h n) (216, [(0, .ref 542), (1, .int a), (2, .int kp), (3, .int st), (4, .int sg), (5, .int tw), (6, .int (Int32.ofInt 0)), (7, .int k), (8, .int y159), (9, .int y163)], [], h2, n, 0, 0) := by
            intro n1 n2 n3
            refine mc_cx hmi 2 (F' := (218, [(0, .ref 542), (1, .int a), (2, .int kp), (3, .int st), (4, .int sg), (5, .int tw), (6, .int (Int32.ofInt 0)), (7, .int k), (8, .int y159), (9, .int y163)], [.int (Int32.ofInt 3), .int st], h2, n, 0, 0)) (by with_unfolding_all rfl) ?_
            refine mc_ci hmi (c := .ne) (tg := 251) (pc' := 221) rfl rfl rfl rfl (by decide) (fun (q207 : st.toInt ≠ 3) => ?_) (fun (q207 : st.toInt = 3) => ?_)
            · exact k251 n1 n2 n3 (fun z => q207 z.1)
            · refine mc_cx hmi 2 (F' := (225, [(0, .ref 542), (1, .int a), (2, .int kp), (3, .int st), (4, .int sg), (5, .int tw), (6, .int (Int32.ofInt 0)), (7, .int k), (8, .int y159), (9, .int y163)], [.int (Int8.ofInt 60).toInt32, .int y159], h2, n, 0, 0)) (by with_unfolding_all rfl) ?_
              refine mc_ci hmi (c := .ne) (tg := 251) (pc' := 228) rfl rfl rfl hx (by decide) (fun (q208 : x ≠ 60) => ?_) (fun (q208 : x = 60) => ?_)
              · exact k251 n1 n2 n3 (fun z => q208 z.2.1)
              · refine mc_cx hmi 4 (F' := (234, [(0, .ref 542), (1, .int a), (2, .int kp), (3, .int st), (4, .int sg), (5, .int tw), (6, .int (Int32.ofInt 0)), (7, .int k), (8, .int y159), (9, .int y163)], [.int (Int32.ofInt 1), .int sg, .int (Int8.ofInt 13).toInt32, .ref 542], h2, n, 0, 0)) (by with_unfolding_all rfl) ?_
                refine mc_callP hmi (en := (234, .invokevirtual 124, 3, (3, 157, 11, 0), [1295, 77, 1293])) rfl (q := (mt_X11_isMore, [.ref 542, .int (Int8.ofInt 13).toInt32, .int sg, .int (Int32.ofInt 1)], [])) (mc_inv H2 (as := [.int (Int8.ofInt 13).toInt32, .int sg, .int (Int32.ofInt 1)]) (rest := []) rfl (by with_unfolding_all rfl) rfl rfl rfl) ⟨rfl, rfl⟩ (pc' := 237) rfl (mc_isMore (by omega) H2 (Int8.ofInt 13).toInt32 sg (Int32.ofInt 1) (by decide) (by decide) i3 i4) (fun y209 e210 => ?_)
                have hm3 : y209.toInt = 1 ∧ 2 * pg_w sg.toInt < pg_w 13 ∨ y209.toInt = 0 ∧ ¬ (2 * pg_w sg.toInt < pg_w 13) := by
                  rcases e210 with ⟨u1, u2⟩ | ⟨u1, u2⟩
                  · exact Or.inl ⟨u1, u2.elim (fun z => z.2) (fun z => absurd z.1 (by decide))⟩
                  · exact Or.inr ⟨u1, fun z => u2 (Or.inl ⟨by decide, z⟩)⟩
                refine mc_cz hmi (c := .eq) (tg := 251) (pc' := 240) rfl rfl rfl rfl (fun (q211 : y209.toInt = 0) => ?_) (fun (q211 : y209.toInt ≠ 0) => ?_)
                · exact k251 n1 n2 n3 (fun z => hm3.elim (fun u => absurd u.1 (by rw [q211]; decide)) (fun u => u.2 z.2.2))
                · refine mc_cx hmi 7 (F' := (353, [(6, .int (Int32.ofInt 1)), (3, .int (Int32.ofInt 4)), (5, .int (Int32.ofInt 1)), (0, .ref 542), (1, .int a), (2, .int kp), (4, .int sg), (7, .int k), (8, .int y159), (9, .int y163)], [], h2, n, 0, 0)) (by with_unfolding_all rfl) ?_
                  refine mc_lvs (lv' := [(0, .ref 542), (1, .int a), (2, .int kp), (3, .int (Int32.ofInt 4)), (4, .int sg), (5, .int (Int32.ofInt 1)), (6, .int (Int32.ofInt 1)), (7, .int k)]) (by simp) ?_
                  unfold pg_rm at hstep
                  rw [if_neg n1, if_neg n2, if_neg n3, if_pos (And.intro q207 (And.intro q208 (hm3.elim (fun u => u.2) (fun u => absurd u.1 q211))))] at hstep
                  refine k353 h2 (Int32.ofInt 4) sg (Int32.ofInt 1) (Int32.ofInt 1) H2 hf (Or.inl ⟨by decide, ?_, fun hc5 => pg_K_same (by rw [hstep]; omega) (by rw [hstep]; omega) (by rw [hstep]; omega) (hK hc5)⟩)
                  exact ⟨by decide, by decide, i3, i4, Or.inr (by decide), fun q => absurd q (by decide), fun _ => by decide, by rw [hstep]; exact pg_e4 _ _, by omega⟩
          have k181 : ¬ (st.toInt = 0 ∧ y163.toInt ≠ -1) → ¬ (st.toInt = 1 ∧ 49 ≤ x ∧ x ≤ 57) → mc_R l G mt_X11_readCustom d (rc_Q h n) (181, [(0, .ref 542), (1, .int a), (2, .int kp), (3, .int st), (4, .int sg), (5, .int tw), (6, .int (Int32.ofInt 0)), (7, .int k), (8, .int y159), (9, .int y163)], [], h2, n, 0, 0) := by
            intro n1 n2
            refine mc_cx hmi 2 (F' := (183, [(0, .ref 542), (1, .int a), (2, .int kp), (3, .int st), (4, .int sg), (5, .int tw), (6, .int (Int32.ofInt 0)), (7, .int k), (8, .int y159), (9, .int y163)], [.int (Int32.ofInt 1), .int st], h2, n, 0, 0)) (by with_unfolding_all rfl) ?_
            refine mc_ci hmi (c := .ne) (tg := 216) (pc' := 186) rfl rfl rfl rfl (by decide) (fun (q212 : st.toInt ≠ 1) => ?_) (fun (q212 : st.toInt = 1) => ?_)
            · exact k216 n1 n2 (fun z => q212 z.1)
            · refine mc_cx hmi 2 (F' := (190, [(0, .ref 542), (1, .int a), (2, .int kp), (3, .int st), (4, .int sg), (5, .int tw), (6, .int (Int32.ofInt 0)), (7, .int k), (8, .int y159), (9, .int y163)], [.int (Int8.ofInt 60).toInt32, .int y159], h2, n, 0, 0)) (by with_unfolding_all rfl) ?_
              refine mc_ci hmi (c := .ne) (tg := 216) (pc' := 193) rfl rfl rfl hx (by decide) (fun (q213 : x ≠ 60) => ?_) (fun (q213 : x = 60) => ?_)
              · exact k216 n1 n2 (fun z => q213 z.2.1)
              · refine mc_cx hmi 4 (F' := (199, [(0, .ref 542), (1, .int a), (2, .int kp), (3, .int st), (4, .int sg), (5, .int tw), (6, .int (Int32.ofInt 0)), (7, .int k), (8, .int y159), (9, .int y163)], [.int (Int32.ofInt 0), .int sg, .int (Int8.ofInt 13).toInt32, .ref 542], h2, n, 0, 0)) (by with_unfolding_all rfl) ?_
                refine mc_callP hmi (en := (199, .invokevirtual 124, 3, (3, 157, 11, 0), [1295, 77, 1293])) rfl (q := (mt_X11_isMore, [.ref 542, .int (Int8.ofInt 13).toInt32, .int sg, .int (Int32.ofInt 0)], [])) (mc_inv H2 (as := [.int (Int8.ofInt 13).toInt32, .int sg, .int (Int32.ofInt 0)]) (rest := []) rfl (by with_unfolding_all rfl) rfl rfl rfl) ⟨rfl, rfl⟩ (pc' := 202) rfl (mc_isMore (by omega) H2 (Int8.ofInt 13).toInt32 sg (Int32.ofInt 0) (by decide) (by decide) i3 i4) (fun y214 e215 => ?_)
                have hm3 : y214.toInt = 1 ∧ 1 * pg_w sg.toInt < pg_w 13 ∨ y214.toInt = 0 ∧ ¬ (1 * pg_w sg.toInt < pg_w 13) := by
                  rcases e215 with ⟨u1, u2⟩ | ⟨u1, u2⟩
                  · exact Or.inl ⟨u1, u2.elim (fun z => absurd (by decide) z.1) (fun z => z.2)⟩
                  · exact Or.inr ⟨u1, fun z => u2 (Or.inr ⟨by decide, z⟩)⟩
                refine mc_cz hmi (c := .eq) (tg := 216) (pc' := 205) rfl rfl rfl rfl (fun (q216 : y214.toInt = 0) => ?_) (fun (q216 : y214.toInt ≠ 0) => ?_)
                · exact k216 n1 n2 (fun z => hm3.elim (fun u => absurd u.1 (by rw [q216]; decide)) (fun u => u.2 z.2.2))
                · refine mc_cx hmi 7 (F' := (353, [(6, .int (Int32.ofInt 1)), (3, .int (Int32.ofInt 3)), (5, .int (Int32.ofInt 0)), (0, .ref 542), (1, .int a), (2, .int kp), (4, .int sg), (7, .int k), (8, .int y159), (9, .int y163)], [], h2, n, 0, 0)) (by with_unfolding_all rfl) ?_
                  refine mc_lvs (lv' := [(0, .ref 542), (1, .int a), (2, .int kp), (3, .int (Int32.ofInt 3)), (4, .int sg), (5, .int (Int32.ofInt 0)), (6, .int (Int32.ofInt 1)), (7, .int k)]) (by simp) ?_
                  unfold pg_rm at hstep
                  rw [if_neg n1, if_neg n2, if_pos (And.intro q212 (And.intro q213 (hm3.elim (fun u => u.2) (fun u => absurd u.1 q216))))] at hstep
                  refine k353 h2 (Int32.ofInt 3) sg (Int32.ofInt 0) (Int32.ofInt 1) H2 hf (Or.inl ⟨by decide, ?_, fun hc5 => pg_K_same (by rw [hstep]; omega) (by rw [hstep]; omega) (by rw [hstep]; omega) (hK hc5)⟩)
                  exact ⟨by decide, by decide, i3, i4, Or.inl (by decide), fun _ => by decide, fun q => absurd q (by decide), by rw [hstep]; exact pg_e3 _ _, by omega⟩
          refine mc_cx hmi 2 (F' := (140, [(0, .ref 542), (1, .int a), (2, .int kp), (3, .int st), (4, .int sg), (5, .int tw), (6, .int (Int32.ofInt 0)), (7, .int k), (8, .int y159), (9, .int y163)], [.int (Int32.ofInt 1), .int st], h2, n, 0, 0)) (by with_unfolding_all rfl) ?_
          refine mc_ci hmi (c := .ne) (tg := 181) (pc' := 143) rfl rfl rfl rfl (by decide) (fun (q217 : st.toInt ≠ 1) => ?_) (fun (q217 : st.toInt = 1) => ?_)
          · exact k181 n0 (fun z => q217 z.1)
          · refine mc_cx hmi 3 (F' := (149, [(0, .ref 542), (1, .int a), (2, .int kp), (3, .int st), (4, .int sg), (5, .int tw), (6, .int (Int32.ofInt 0)), (7, .int k), (8, .int y159), (9, .int y163)], [.int (Int8.ofInt 57).toInt32, .int (Int8.ofInt 49).toInt32, .int y159], h2, n, 0, 0)) (by with_unfolding_all rfl) ?_
            refine mc_callP hmi (en := (149, .invokestatic 120, 3, (3, 152, 0, 0), [1291, 1290])) rfl (q := (mt_X11_in, [.int y159, .int (Int8.ofInt 49).toInt32, .int (Int8.ofInt 57).toInt32], [])) (by with_unfolding_all rfl) ⟨rfl, rfl⟩ (pc' := 152) rfl (mc_inP (by omega) y159 (Int8.ofInt 49).toInt32 (Int8.ofInt 57).toInt32 h2 n) (fun y218 e219 => ?_)
            have hin : y218.toInt = 1 ∧ 49 ≤ x ∧ x ≤ 57 ∨ y218.toInt = 0 ∧ ¬ (49 ≤ x ∧ x ≤ 57) := by
              rw [hx] at e219
              exact e219
            refine mc_cz hmi (c := .eq) (tg := 181) (pc' := 155) rfl rfl rfl rfl (fun (q220 : y218.toInt = 0) => ?_) (fun (q220 : y218.toInt ≠ 0) => ?_)
            · exact k181 n0 (fun z => hin.elim (fun u => absurd u.1 (by rw [q220]; decide)) (fun u => u.2 z.2))
            · have hdig : 49 ≤ x ∧ x ≤ 57 := hin.elim (fun u => u.2) (fun u => absurd u.1 q220)
              have k173 : ∀ h3 : ax_H, mc_HW h3 n → rc_F h h3 → (pg_run (ab_ri h 545) (j + 1) = 2 + 8 * sg.toInt → (ab_ri h 542 4 ≤ 5 → pg_K h3 546 547 548 (14 * ab_ri h 542 4) (ab_ri h 545) (j + 1))) → mc_R l G mt_X11_readCustom d (rc_Q h n) (173, [(0, .ref 542), (1, .int a), (2, .int kp), (3, .int st), (4, .int sg), (5, .int tw), (6, .int (Int32.ofInt 0)), (7, .int k), (8, .int y159), (9, .int y163)], [], h3, n, 0, 0) := by
                intro h3 H3 hf3 hK3
                refine mc_cx hmi 5 (F' := (353, [(6, .int (Int32.ofInt 1)), (3, .int (Int32.ofInt 2)), (0, .ref 542), (1, .int a), (2, .int kp), (4, .int sg), (5, .int tw), (7, .int k), (8, .int y159), (9, .int y163)], [], h3, n, 0, 0)) (by with_unfolding_all rfl) ?_
                refine mc_lvs (lv' := [(0, .ref 542), (1, .int a), (2, .int kp), (3, .int (Int32.ofInt 2)), (4, .int sg), (5, .int tw), (6, .int (Int32.ofInt 1)), (7, .int k)]) (by simp) ?_
                unfold pg_rm at hstep
                rw [if_neg n0, if_pos (And.intro q217 hdig)] at hstep
                refine k353 h3 (Int32.ofInt 2) sg tw (Int32.ofInt 1) H3 hf3 (Or.inl ⟨by decide, ?_, hK3 hstep⟩)
                exact ⟨by decide, by decide, i3, i4, i5, fun q => absurd q (by decide), fun q => absurd q (by decide), by rw [hstep]; exact pg_e2 _ _, by omega⟩
              refine mc_cx hmi 1 (F' := (156, [(0, .ref 542), (1, .int a), (2, .int kp), (3, .int st), (4, .int sg), (5, .int tw), (6, .int (Int32.ofInt 0)), (7, .int k), (8, .int y159), (9, .int y163)], [.int kp], h2, n, 0, 0)) (by with_unfolding_all rfl) ?_
              refine mc_cz hmi (c := .eq) (tg := 173) (pc' := 159) rfl rfl rfl rfl (fun (q221 : kp.toInt = 0) => ?_) (fun (q221 : kp.toInt ≠ 0) => ?_)
              · refine mc_lvs (lv' := [(0, .ref 542), (1, .int a), (2, .int kp), (3, .int st), (4, .int sg), (5, .int tw), (6, .int (Int32.ofInt 0)), (7, .int k), (8, .int y159), (9, .int y163)]) (by simp) ?_
                exact k173 h2 H2 hf (fun _ hc5 => hkp.elim (fun u => absurd (Int.le_trans u.2 hc5) (by decide)) (fun u => absurd u.1 (by rw [q221]; decide)))
              · have hc5 : ab_ri h 542 4 ≤ 5 := hkp.elim (fun u => absurd u.1 q221) (fun u => u.2)
                obtain ⟨gs, hgs, hge⟩ : ∃ gs : Nat, gs < 14 ∧ (gs : Int) = sg.toInt := ⟨sg.toInt.toNat, by omega, by omega⟩
                refine mc_cx hmi 1 (F' := (160, [(0, .ref 542), (1, .int a), (2, .int kp), (3, .int st), (4, .int sg), (5, .int tw), (6, .int (Int32.ofInt 0)), (7, .int k), (8, .int y159), (9, .int y163)], [.ref 542], h2, n, 0, 0)) (by with_unfolding_all rfl) ?_
                refine mc_getr hmi H2 (k := 542) (c := 546) (pc' := 163) rfl rfl rfl rfl rfl ?_
                refine mc_cx hmi 6 (F' := (172, [(0, .ref 542), (1, .int a), (2, .int kp), (3, .int st), (4, .int sg), (5, .int tw), (6, .int (Int32.ofInt 0)), (7, .int k), (8, .int y159), (9, .int y163)], [.int (y159 - (Int8.ofInt 48).toInt32), .int (a + sg), .ref 546], h2, n, 0, 0)) (by with_unfolding_all rfl) ?_
                have e222 : (a + sg).toInt = (14 * ab_ri h 542 4) + sg.toInt := mc_add ha rfl (by omega) (by omega)
                have e223 : (y159 - (Int8.ofInt 48).toInt32).toInt = x - 48 := mc_sub hx (by decide) (by omega) (by omega)
                refine mc_iast hmi H2 (k := 546) (i := ((14 * ab_ri h 542 4) + sg.toInt)) (pc' := 173) rfl rfl rfl e222 (by omega) (by omega) (by rw [e223]; omega) (by rw [e223]; omega) rfl (fun h224 H225 w226 => ?_)
                refine mc_lvs (lv' := [(0, .ref 542), (1, .int a), (2, .int kp), (3, .int st), (4, .int sg), (5, .int tw), (6, .int (Int32.ofInt 0)), (7, .int k), (8, .int y159), (9, .int y163)]) (by simp) ?_
                refine k173 h224 H225 (fun k' i' p1 => by rw [w226, if_neg (fun q => by have := p1 (by omega); have := q.2; omega)]; exact hf k' i' p1) (fun hr _ => pg_K_put0 (v := (y159 - (Int8.ofInt 48).toInt32)) hgs (by rw [hr, hge]) (by decide) (by decide) ?_ (by rw [hge]; exact w226) (hK hc5))
                refine Int32.toInt_inj.mp ?_
                rw [e223, hX, Int32.toInt_ofInt_of_le (by omega) (by omega)]
        refine mc_cx hmi 4 (F' := (117, [(6, .int (Int32.ofInt 0)), (9, .int y163), (8, .int y159), (0, .ref 542), (1, .int a), (2, .int kp), (3, .int st), (4, .int sg), (5, .int tw), (7, .int k)], [.int st], h2, n, 0, 0)) (by with_unfolding_all rfl) ?_
        refine mc_cz hmi (c := .ne) (tg := 138) (pc' := 120) rfl rfl rfl rfl (fun (q227 : st.toInt ≠ 0) => ?_) (fun (q227 : st.toInt = 0) => ?_)
        · refine mc_lvs (lv' := [(0, .ref 542), (1, .int a), (2, .int kp), (3, .int st), (4, .int sg), (5, .int tw), (6, .int (Int32.ofInt 0)), (7, .int k), (8, .int y159), (9, .int y163)]) (by simp) ?_
          exact k138 (fun z => q227 z.1)
        · refine mc_cx hmi 2 (F' := (123, [(6, .int (Int32.ofInt 0)), (9, .int y163), (8, .int y159), (0, .ref 542), (1, .int a), (2, .int kp), (3, .int st), (4, .int sg), (5, .int tw), (7, .int k)], [.int (Int32.ofInt (-1)), .int y163], h2, n, 0, 0)) (by with_unfolding_all rfl) ?_
          refine mc_ci hmi (c := .eq) (tg := 138) (pc' := 126) rfl rfl rfl rfl (by decide) (fun (q228 : y163.toInt = (-1)) => ?_) (fun (q228 : y163.toInt ≠ (-1)) => ?_)
          · refine mc_lvs (lv' := [(0, .ref 542), (1, .int a), (2, .int kp), (3, .int st), (4, .int sg), (5, .int tw), (6, .int (Int32.ofInt 0)), (7, .int k), (8, .int y159), (9, .int y163)]) (by simp) ?_
            exact k138 (fun z => z.2 q228)
          · refine mc_cx hmi 7 (F' := (353, [(6, .int (Int32.ofInt 1)), (3, .int (Int32.ofInt 1)), (4, .int y163), (9, .int y163), (8, .int y159), (0, .ref 542), (1, .int a), (2, .int kp), (5, .int tw), (7, .int k)], [], h2, n, 0, 0)) (by with_unfolding_all rfl) ?_
            refine mc_lvs (lv' := [(0, .ref 542), (1, .int a), (2, .int kp), (3, .int (Int32.ofInt 1)), (4, .int y163), (5, .int tw), (6, .int (Int32.ofInt 1)), (7, .int k)]) (by simp) ?_
            unfold pg_rm at hstep
            rw [if_pos (And.intro q227 q228)] at hstep
            refine k353 h2 (Int32.ofInt 1) y163 tw (Int32.ofInt 1) H2 hf (Or.inl ⟨by decide, ?_, fun hc5 => pg_K_same (by rw [hstep]; omega) (by rw [hstep]; omega) (by rw [hstep]; omega) (hK hc5)⟩)
            exact ⟨by decide, by decide, by omega, by omega, i5, fun q => absurd q (by decide), fun q => absurd q (by decide), by rw [hstep]; exact pg_e1 _ _, by omega⟩
set_option maxRecDepth 100000 in
theorem rc_clear {l : Launch} {G : ax_T} {d : Nat} {h : ax_H} {n : Nat} (hd : 2 ≤ d) (H : mc_HW h n) (a kp : Int32) (hc : 0 ≤ ab_ri h 542 4) (ha : a.toInt = 14 * ab_ri h 542 4) (hkp : (kp.toInt = 0 ∧ 6 ≤ ab_ri h 542 4 ∨ kp.toInt = 1 ∧ ab_ri h 542 4 ≤ 5)) : ∀ (c j : Nat) (h2 : ax_H) (s : Int32), j + c = 14 → s.toInt = (j : Int) → mc_HW h2 n → rc_F h h2 → (ab_ri h 542 4 ≤ 5 → ∀ t : Nat, t < j → ab_rd h2 546 (14 * ab_ri h 542 4 + (t : Int)) = some (.int (Int32.ofInt 0)) ∧ ab_rd h2 547 (14 * ab_ri h 542 4 + (t : Int)) = some (.int (Int32.ofInt 0)) ∧ ab_rd h2 548 (14 * ab_ri h 542 4 + (t : Int)) = some (.int (Int32.ofInt 0))) → mc_R l G mt_X11_readCustom d (rc_Q h n) (25, [(0, .ref 542), (1, .int a), (2, .int kp), (3, .int s)], [], h2, n, 0, 0) := by
  have hmi : mt_X11_readCustom ∈ mt_prog := List.mem_of_getElem? mi_X11_readCustom
  have hlen : 0 ≤ ab_ri h 542 2 ∧ ab_ri h 542 2 ≤ 80 := mc_frng H (k := 542) (j := 2) (ci := 11) rfl rfl
  intro c
  induction c with
  | zero =>
    intro j h2 s hj hs H2 hf hZ
    have k68 : (ab_ri h 542 4 ≤ 5 → pg_K h2 546 547 548 (14 * ab_ri h 542 4) (ab_ri h 545) 0) → ∀ u : Int32, mc_R l G mt_X11_readCustom d (rc_Q h n) (68, [(0, .ref 542), (1, .int a), (2, .int kp), (3, .int u)], [], h2, n, 0, 0) := by
      intro hK0 u
      refine mc_cx hmi 10 (F' := (82, [(7, .int (Int32.ofInt 0)), (6, .int (Int32.ofInt 1)), (5, .int (Int32.ofInt 0)), (4, .int (Int32.ofInt 0)), (3, .int (Int32.ofInt 0)), (0, .ref 542), (1, .int a), (2, .int kp)], [], h2, n, 0, 0)) (by with_unfolding_all rfl) ?_
      refine mc_lvs (lv' := [(0, .ref 542), (1, .int a), (2, .int kp), (3, .int (Int32.ofInt 0)), (4, .int (Int32.ofInt 0)), (5, .int (Int32.ofInt 0)), (6, .int (Int32.ofInt 1)), (7, .int (Int32.ofInt 0))]) (by simp) ?_
      exact rc_loop hd H a kp hc ha hkp (ab_ri h 542 2).toNat 0 h2 _ _ _ _ _ (by omega) (by decide) H2 hf (by decide) ⟨by decide, by decide, by decide, by decide, Or.inl (by decide), fun _ => by decide, fun q => absurd q (by decide), rfl, (show (0 : Int) ≠ -1 by decide)⟩ hK0
    refine mc_cx hmi 2 (F' := (28, [(0, .ref 542), (1, .int a), (2, .int kp), (3, .int s)], [.int (Int8.ofInt 14).toInt32, .int s], h2, n, 0, 0)) (by with_unfolding_all rfl) ?_
    refine mc_ci hmi (c := .ge) (tg := 68) (pc' := 31) rfl rfl rfl hs (by decide) (fun (q229 : 14 ≤ (j : Int)) => ?_) (fun (q229 : (j : Int) < 14) => ?_)
    · refine mc_lvs (lv' := [(0, .ref 542), (1, .int a), (2, .int kp), (3, .int s)]) (by simp) ?_
      exact k68 (fun hc5 t ht => hZ hc5 t (by omega)) s
    · exact absurd q229 (by omega)
  | succ c ih =>
    intro j h2 s hj hs H2 hf hZ
    have k68 : (ab_ri h 542 4 ≤ 5 → pg_K h2 546 547 548 (14 * ab_ri h 542 4) (ab_ri h 545) 0) → ∀ u : Int32, mc_R l G mt_X11_readCustom d (rc_Q h n) (68, [(0, .ref 542), (1, .int a), (2, .int kp), (3, .int u)], [], h2, n, 0, 0) := by
      intro hK0 u
      refine mc_cx hmi 10 (F' := (82, [(7, .int (Int32.ofInt 0)), (6, .int (Int32.ofInt 1)), (5, .int (Int32.ofInt 0)), (4, .int (Int32.ofInt 0)), (3, .int (Int32.ofInt 0)), (0, .ref 542), (1, .int a), (2, .int kp)], [], h2, n, 0, 0)) (by with_unfolding_all rfl) ?_
      refine mc_lvs (lv' := [(0, .ref 542), (1, .int a), (2, .int kp), (3, .int (Int32.ofInt 0)), (4, .int (Int32.ofInt 0)), (5, .int (Int32.ofInt 0)), (6, .int (Int32.ofInt 1)), (7, .int (Int32.ofInt 0))]) (by simp) ?_
      exact rc_loop hd H a kp hc ha hkp (ab_ri h 542 2).toNat 0 h2 _ _ _ _ _ (by omega) (by decide) H2 hf (by decide) ⟨by decide, by decide, by decide, by decide, Or.inl (by decide), fun _ => by decide, fun q => absurd q (by decide), rfl, (show (0 : Int) ≠ -1 by decide)⟩ hK0
    refine mc_cx hmi 2 (F' := (28, [(0, .ref 542), (1, .int a), (2, .int kp), (3, .int s)], [.int (Int8.ofInt 14).toInt32, .int s], h2, n, 0, 0)) (by with_unfolding_all rfl) ?_
    refine mc_ci hmi (c := .ge) (tg := 68) (pc' := 31) rfl rfl rfl hs (by decide) (fun (q230 : 14 ≤ (j : Int)) => ?_) (fun (q230 : (j : Int) < 14) => ?_)
    · exact absurd q230 (by omega)
    · refine mc_cx hmi 1 (F' := (32, [(0, .ref 542), (1, .int a), (2, .int kp), (3, .int s)], [.int kp], h2, n, 0, 0)) (by with_unfolding_all rfl) ?_
      refine mc_cz hmi (c := .eq) (tg := 68) (pc' := 35) rfl rfl rfl rfl (fun (q231 : kp.toInt = 0) => ?_) (fun (q231 : kp.toInt ≠ 0) => ?_)
      · refine mc_lvs (lv' := [(0, .ref 542), (1, .int a), (2, .int kp), (3, .int s)]) (by simp) ?_
        exact k68 (fun hc5 => absurd hkp (by omega)) s
      · have hc5 : ab_ri h 542 4 ≤ 5 := by omega
        refine mc_cx hmi 1 (F' := (36, [(0, .ref 542), (1, .int a), (2, .int kp), (3, .int s)], [.ref 542], h2, n, 0, 0)) (by with_unfolding_all rfl) ?_
        refine mc_getr hmi H2 (k := 542) (c := 546) (pc' := 39) rfl rfl rfl rfl rfl ?_
        refine mc_cx hmi 4 (F' := (43, [(0, .ref 542), (1, .int a), (2, .int kp), (3, .int s)], [.int (Int32.ofInt 0), .int (a + s), .ref 546], h2, n, 0, 0)) (by with_unfolding_all rfl) ?_
        have e232 : (a + s).toInt = (14 * ab_ri h 542 4) + (j : Int) := mc_add ha hs (by omega) (by omega)
        refine mc_iast hmi H2 (k := 546) (i := ((14 * ab_ri h 542 4) + (j : Int))) (pc' := 44) rfl rfl rfl e232 (by omega) (by omega) (by rw [show ((Int32.ofInt 0)).toInt = 0 from by decide]; omega) (by rw [show ((Int32.ofInt 0)).toInt = 0 from by decide]; omega) rfl (fun h233 H234 w235 => ?_)
        refine mc_cx hmi 1 (F' := (45, [(0, .ref 542), (1, .int a), (2, .int kp), (3, .int s)], [.ref 542], h233, n, 0, 0)) (by with_unfolding_all rfl) ?_
        refine mc_getr hmi H234 (k := 542) (c := 547) (pc' := 48) rfl rfl rfl rfl rfl ?_
        refine mc_cx hmi 4 (F' := (52, [(0, .ref 542), (1, .int a), (2, .int kp), (3, .int s)], [.int (Int32.ofInt 0), .int (a + s), .ref 547], h233, n, 0, 0)) (by with_unfolding_all rfl) ?_
        have e236 : (a + s).toInt = (14 * ab_ri h 542 4) + (j : Int) := mc_add ha hs (by omega) (by omega)
        refine mc_iast hmi H234 (k := 547) (i := ((14 * ab_ri h 542 4) + (j : Int))) (pc' := 53) rfl rfl rfl e236 (by omega) (by omega) (by rw [show ((Int32.ofInt 0)).toInt = 0 from by decide]; omega) (by rw [show ((Int32.ofInt 0)).toInt = 0 from by decide]; omega) rfl (fun h237 H238 w239 => ?_)
        refine mc_cx hmi 1 (F' := (54, [(0, .ref 542), (1, .int a), (2, .int kp), (3, .int s)], [.ref 542], h237, n, 0, 0)) (by with_unfolding_all rfl) ?_
        refine mc_getr hmi H238 (k := 542) (c := 548) (pc' := 57) rfl rfl rfl rfl rfl ?_
        refine mc_cx hmi 4 (F' := (61, [(0, .ref 542), (1, .int a), (2, .int kp), (3, .int s)], [.int (Int32.ofInt 0), .int (a + s), .ref 548], h237, n, 0, 0)) (by with_unfolding_all rfl) ?_
        have e240 : (a + s).toInt = (14 * ab_ri h 542 4) + (j : Int) := mc_add ha hs (by omega) (by omega)
        refine mc_iast hmi H238 (k := 548) (i := ((14 * ab_ri h 542 4) + (j : Int))) (pc' := 62) rfl rfl rfl e240 (by omega) (by omega) (by rw [show ((Int32.ofInt 0)).toInt = 0 from by decide]; omega) (by rw [show ((Int32.ofInt 0)).toInt = 0 from by decide]; omega) rfl (fun h241 H242 w243 => ?_)
        refine mc_cx hmi 2 (F' := (25, [(3, .int (s + Int32.ofInt 1)), (0, .ref 542), (1, .int a), (2, .int kp)], [], h241, n, 0, 0)) (by with_unfolding_all rfl) ?_
        have e244 : (s + Int32.ofInt 1).toInt = (j : Int) + 1 := mc_add hs (by decide) (by omega) (by omega)
        refine mc_lvs (lv' := [(0, .ref 542), (1, .int a), (2, .int kp), (3, .int (s + Int32.ofInt 1))]) (by simp) ?_
        refine ih (j + 1) h241 (s + Int32.ofInt 1) (by omega) (by rw [e244]; omega) H242 (fun k' i' p1 => ?_) (fun _ t ht => ?_)
        · rw [w243, if_neg (fun q => by have := p1 (by omega); have := q.2; omega), w239, if_neg (fun q => by have := p1 (by omega); have := q.2; omega), w235, if_neg (fun q => by have := p1 (by omega); have := q.2; omega)]; exact hf k' i' p1
        · by_cases e : t = j
          · subst e
            exact ⟨by rw [w243, if_neg (fun q => absurd q.1 (by decide)), w239, if_neg (fun q => absurd q.1 (by decide)), w235, if_pos ⟨rfl, rfl⟩], by rw [w243, if_neg (fun q => absurd q.1 (by decide)), w239, if_pos ⟨rfl, rfl⟩], by rw [w243, if_pos ⟨rfl, rfl⟩]⟩
          · obtain ⟨z1, z2, z3⟩ := hZ hc5 t (by omega)
            exact ⟨by rw [w243, if_neg (fun q => by have := q.2; omega), w239, if_neg (fun q => by have := q.2; omega), w235, if_neg (fun q => by have := q.2; omega)]; exact z1, by rw [w243, if_neg (fun q => by have := q.2; omega), w239, if_neg (fun q => by have := q.2; omega), w235, if_neg (fun q => by have := q.2; omega)]; exact z2, by rw [w243, if_neg (fun q => by have := q.2; omega), w239, if_neg (fun q => by have := q.2; omega), w235, if_neg (fun q => by have := q.2; omega)]; exact z3⟩
set_option maxRecDepth 100000 in
theorem mc_readCustom {l : Launch} {G : ax_T} {d : Nat} {h : ax_H} {n : Nat} (hd : 3 ≤ d) (H : mc_HW h n) : mc_M l G d mt_X11_readCustom [.ref 542] h n (rc_Q h n) := by
  obtain ⟨d, rfl⟩ : ∃ e, d = e + 1 := ⟨d - 1, by omega⟩
  have hmi : mt_X11_readCustom ∈ mt_prog := List.mem_of_getElem? mi_X11_readCustom
  refine mc_to hmi rfl ?_
  show mc_R _ _ _ _ _ (0, [(0, .ref 542)], [], h, n, 0, 0)
  have hcu : 0 ≤ ab_ri h 542 4 ∧ ab_ri h 542 4 ≤ 6 := mc_frng H (k := 542) (j := 4) (ci := 11) rfl rfl
  refine mc_cx hmi 2 (F' := (3, [(0, .ref 542)], [.ref 542, .int (Int8.ofInt 14).toInt32], h, n, 0, 0)) (by with_unfolding_all rfl) ?_
  refine mc_geti hmi H (k := 542) (j := 4) (pc' := 6) rfl rfl rfl rfl (fun y245 (e246 : y245.toInt = ab_ri h 542 4) r247 r248 => ?_)
  rw [e246] at r247 r248
  refine mc_cx hmi 3 (F' := (9, [(1, .int ((Int8.ofInt 14).toInt32 * y245)), (0, .ref 542)], [.ref 542], h, n, 0, 0)) (by with_unfolding_all rfl) ?_
  have e249 : ((Int8.ofInt 14).toInt32 * y245).toInt = 14 * ab_ri h 542 4 := mc_mul (by decide) e246 (by omega) (by omega)
  refine mc_geti hmi H (k := 542) (j := 4) (pc' := 12) rfl rfl rfl rfl (fun y250 (e251 : y250.toInt = ab_ri h 542 4) r252 r253 => ?_)
  rw [e251] at r252 r253
  refine mc_cx hmi 1 (F' := (14, [(1, .int ((Int8.ofInt 14).toInt32 * y245)), (0, .ref 542)], [.int (Int8.ofInt 6).toInt32, .int y250], h, n, 0, 0)) (by with_unfolding_all rfl) ?_
  refine mc_ci hmi (c := .ge) (tg := 21) (pc' := 17) rfl rfl rfl e251 (by decide) (fun (q254 : 6 ≤ ab_ri h 542 4) => ?_) (fun (q254 : ab_ri h 542 4 < 6) => ?_)
  · refine mc_cx hmi 4 (F' := (25, [(3, .int (Int32.ofInt 0)), (2, .int (Int32.ofInt 0)), (1, .int ((Int8.ofInt 14).toInt32 * y245)), (0, .ref 542)], [], h, n, 0, 0)) (by with_unfolding_all rfl) ?_
    refine mc_lvs (lv' := [(0, .ref 542), (1, .int ((Int8.ofInt 14).toInt32 * y245)), (2, .int (Int32.ofInt 0)), (3, .int (Int32.ofInt 0))]) (by simp) ?_
    exact rc_clear (by omega) H ((Int8.ofInt 14).toInt32 * y245) _ hcu.1 e249 (Or.inl ⟨by decide, by omega⟩) 14 0 h _ rfl (by decide) H (fun _ _ _ => rfl) (fun _ t ht => absurd ht (Nat.not_lt_zero t))
  · refine mc_cx hmi 5 (F' := (25, [(3, .int (Int32.ofInt 0)), (2, .int (Int32.ofInt 1)), (1, .int ((Int8.ofInt 14).toInt32 * y245)), (0, .ref 542)], [], h, n, 0, 0)) (by with_unfolding_all rfl) ?_
    refine mc_lvs (lv' := [(0, .ref 542), (1, .int ((Int8.ofInt 14).toInt32 * y245)), (2, .int (Int32.ofInt 1)), (3, .int (Int32.ofInt 0))]) (by simp) ?_
    exact rc_clear (by omega) H ((Int8.ofInt 14).toInt32 * y245) _ hcu.1 e249 (Or.inr ⟨by decide, by omega⟩) 14 0 h _ rfl (by decide) H (fun _ _ _ => rfl) (fun _ t ht => absurd ht (Nat.not_lt_zero t))
set_option maxRecDepth 100000 in
theorem mc_good11 {l : Launch} {G : ax_T} {d : Nat} {h : ax_H} {n : Nat} (hd : 4 ≤ d) (H : mc_HW h n) : mc_M l G d mt_X11_good [.ref 542] h n (fun r' h' n' => n' = n ∧ mc_HW h' n ∧ (∃ y : Int32, r' = some (.int y) ∧ y.toInt = (pg_good (ab_ri h 545) (ab_ri h 542 2).toNat : Int)) ∧ (∀ (k' : Nat) (i' : Int), (k' = 546 ∨ k' = 547 ∨ k' = 548 → i' < 14 * ab_ri h 542 4) → (k' = 542 → i' ≠ 25) → (k' = 542 → i' ≠ 26) → ab_rd h' k' i' = ab_rd h k' i')) := by
  obtain ⟨d, rfl⟩ : ∃ e, d = e + 1 := ⟨d - 1, by omega⟩
  have hmi : mt_X11_good ∈ mt_prog := List.mem_of_getElem? mi_X11_good
  refine mc_to hmi rfl ?_
  show mc_R _ _ _ _ _ (0, [(0, .ref 542)], [], h, n, 0, 0)
  refine mc_cx hmi 1 (F' := (1, [(0, .ref 542)], [.ref 542], h, n, 0, 0)) (by with_unfolding_all rfl) ?_
  refine mc_call hmi (en := (1, .invokevirtual 135, 3, (3, 156, 11, 0), [1284, 75, 1282])) rfl (q := (mt_X11_readCustom, [.ref 542], [])) (mc_inv H (as := []) (rest := []) rfl (by with_unfolding_all rfl) rfl rfl rfl) ⟨rfl, rfl⟩ (pc' := 4) rfl (mc_mono (mc_readCustom (by omega) H) ?_)
  intro r2 h2 n2 P2
  obtain ⟨e1, e2, H2, f2, g1, g2, -⟩ := P2
  rw [e1, e2]
  show mc_R _ _ _ _ _ (4, [(0, .ref 542)], [], h2, n, 0, 0)
  refine mc_cx hmi 1 (F' := (5, [(0, .ref 542)], [.ref 542], h2, n, 0, 0)) (by with_unfolding_all rfl) ?_
  refine mc_geti hmi H2 (k := 542) (j := 25) (pc' := 8) rfl rfl rfl rfl (fun y255 (e256 : y255.toInt = ab_ri h2 542 25) r257 r258 => ?_)
  rw [e256] at r257 r258
  exact mc_ret hmi rfl rfl rfl ⟨rfl, H2, ⟨_, rfl, by rw [e256]; exact g1⟩, f2⟩
