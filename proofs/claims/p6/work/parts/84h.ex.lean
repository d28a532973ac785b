/-! ===== the exact calls of the page, in one form (ways printed by wip/v2/mk84h.py) ===== -/
set_option maxRecDepth 100000 in
theorem bl_X10 {l : Launch} {G : ax_T} {d : Nat} {h : ax_H} {n : Nat} (hd : 1 ≤ d) (H : mc_HW h n) : mc_M l G d mt_X10_blank [.ref 0] h n (fun r' h' n' => n' = n ∧ mc_HW h' n ∧ (∃ y : Int32, r' = some (.int y) ∧ y.toInt = ab_ri h 1 1) ∧ ab_rd h' 1 1 = some (.int (Int32.ofInt 0)) ∧ ∀ (k' : Nat) (i' : Int), (k' = 1 → i' ≠ 1) → ab_rd h' k' i' = ab_rd h k' i') := by
  obtain ⟨d, rfl⟩ : ∃ e, d = e + 1 := ⟨d - 1, by omega⟩
  have hmi : mt_X10_blank ∈ mt_prog := List.mem_of_getElem? mi_X10_blank
  refine mc_to hmi rfl ?_
  show mc_R _ _ _ _ _ (0, [(0, .ref 0)], [], h, n, 0, 0)
  refine mc_cx hmi 1 (F' := (1, [(0, .ref 0)], [.ref 0], h, n, 0, 0)) (by with_unfolding_all rfl) ?_
  refine mc_getr hmi H (k := 0) (c := 1) (pc' := 4) rfl rfl rfl rfl rfl ?_
  refine mc_geti hmi H (k := 1) (j := 1) (pc' := 7) rfl rfl rfl rfl (fun y101 (e102 : y101.toInt = ab_ri h 1 1) r103 r104 => ?_)
  rw [e102] at r103 r104
  refine mc_cx hmi 2 (F' := (9, [(1, .int y101), (0, .ref 0)], [.ref 0], h, n, 0, 0)) (by with_unfolding_all rfl) ?_
  refine mc_getr hmi H (k := 0) (c := 1) (pc' := 12) rfl rfl rfl rfl rfl ?_
  refine mc_cx hmi 1 (F' := (13, [(1, .int y101), (0, .ref 0)], [.int (Int32.ofInt 0), .ref 1], h, n, 0, 0)) (by with_unfolding_all rfl) ?_
  refine mc_puti hmi H (k := 1) (j := 1) (pc' := 16) rfl rfl rfl rfl (by rw [show ((Int32.ofInt 0)).toInt = 0 from by decide]; omega) (by rw [show ((Int32.ofInt 0)).toInt = 0 from by decide]; omega) rfl (fun h105 H106 w107 => ?_)
  refine mc_cx hmi 1 (F' := (17, [(1, .int y101), (0, .ref 0)], [.int y101], h105, n, 0, 0)) (by with_unfolding_all rfl) ?_
  exact mc_ret hmi rfl rfl rfl ⟨rfl, H106, ⟨_, rfl, e102⟩, by rw [w107, if_pos ⟨rfl, rfl⟩], fun k' i' p => by rw [w107, if_neg (fun q => p q.1 q.2)]⟩
set_option maxRecDepth 100000 in
theorem bl_X11 {l : Launch} {G : ax_T} {d : Nat} {h : ax_H} {n : Nat} (hd : 1 ≤ d) (H : mc_HW h n) : mc_M l G d mt_X11_blank [.ref 542] h n (fun r' h' n' => n' = n ∧ mc_HW h' n ∧ (∃ y : Int32, r' = some (.int y) ∧ y.toInt = ab_ri h 542 2) ∧ ab_rd h' 542 2 = some (.int (Int32.ofInt 0)) ∧ ∀ (k' : Nat) (i' : Int), (k' = 542 → i' ≠ 2) → ab_rd h' k' i' = ab_rd h k' i') := by
  obtain ⟨d, rfl⟩ : ∃ e, d = e + 1 := ⟨d - 1, by omega⟩
  have hmi : mt_X11_blank ∈ mt_prog := List.mem_of_getElem? mi_X11_blank
  refine mc_to hmi rfl ?_
  show mc_R _ _ _ _ _ (0, [(0, .ref 542)], [], h, n, 0, 0)
  refine mc_cx hmi 1 (F' := (1, [(0, .ref 542)], [.ref 542], h, n, 0, 0)) (by with_unfolding_all rfl) ?_
  refine mc_geti hmi H (k := 542) (j := 2) (pc' := 4) rfl rfl rfl rfl (fun y108 (e109 : y108.toInt = ab_ri h 542 2) r110 r111 => ?_)
  rw [e109] at r110 r111
  refine mc_cx hmi 3 (F' := (7, [(1, .int y108), (0, .ref 542)], [.int (Int32.ofInt 0), .ref 542], h, n, 0, 0)) (by with_unfolding_all rfl) ?_
  refine mc_puti hmi H (k := 542) (j := 2) (pc' := 10) rfl rfl rfl rfl (by rw [show ((Int32.ofInt 0)).toInt = 0 from by decide]; omega) (by rw [show ((Int32.ofInt 0)).toInt = 0 from by decide]; omega) rfl (fun h112 H113 w114 => ?_)
  refine mc_cx hmi 1 (F' := (11, [(1, .int y108), (0, .ref 542)], [.int y108], h112, n, 0, 0)) (by with_unfolding_all rfl) ?_
  exact mc_ret hmi rfl rfl rfl ⟨rfl, H113, ⟨_, rfl, e109⟩, by rw [w114, if_pos ⟨rfl, rfl⟩], fun k' i' p => by rw [w114, if_neg (fun q => p q.1 q.2)]⟩
/-- a call, its answer and the cells behind; what may have changed -/
def ex_S (l : Launch) (G : ax_T) (mi : ax_MI) (as : List Value) (h : ax_H) (n : Nat) (M : List (Nat × Int)) (Q : Int32 → ax_H → Prop) : Prop := ∃ (x : Int32) (h' : ax_H) (n' : Nat), ab_M l G 40 mi as h n (some (.int x), h', n') ∧ ab_HT h' n' ∧ pb_f M n h h' ∧ Q x h'
theorem ab_HT_same {h h' : ax_H} {n n' : Nat} (H : ab_HT h n) (e1 : h' = h) (e2 : n' = n) : ab_HT h' n' := by subst e1 e2; exact H
theorem pb_f_same {M : List (Nat × Int)} {h h' : ax_H} {n : Nat} (e1 : h' = h) : pb_f M n h h' := by subst e1; exact fun _ _ _ _ _ => rfl
/-- frames of calls by hand give the bounds that stand -/
theorem ht_of {h h' : ax_H} {n : Nat} (H : ab_HT h n) (H' : mc_HW h' n) (e : ∀ (k : Nat) (i : Int), k = 28 ∨ k = 29 ∨ k = 554 ∨ (k = 542 ∧ i = 14) ∨ ab_k k = 34 → ab_rd h' k i = ab_rd h k i) : ab_HT h' n := mc_HT_of H' (mc_J2 (mc_HW_of H) e H.2.2.1)
def M_bl10 : List (Nat × Int) := [(2 ^ 1, 1)]
def M_bl11 : List (Nat × Int) := [(2 ^ 52, 2)]
def M_go11 : List (Nat × Int) := [(2 ^ 56 + 2 ^ 57 + 2 ^ 58, -2), (2 ^ 52, 25), (2 ^ 52, 26)]
def M_cu11 : List (Nat × Int) := [(2 ^ 56 + 2 ^ 57 + 2 ^ 58, -2), (2 ^ 52, 25), (2 ^ 52, 26), (2 ^ 52, 2), (2 ^ 52, 4)]
def M_le10 : List (Nat × Int) := [(2 ^ 2, -2), (2 ^ 1, 1)]
def M_le11 : List (Nat × Int) := [(2 ^ 55, -2), (2 ^ 52, 2)]
theorem md_ne {M : List (Nat × Int)} {k : Nat} {i : Int} (c : Nat) (j : Int) (hj : ab_md M (ab_k c) j = true) (hm : ab_md M (ab_k k) i = false) : k = c → i ≠ j := by
  intro e1 e2
  subst e1 e2
  rw [hj] at hm
  cases hm
theorem md_nek {M : List (Nat × Int)} {k : Nat} {i : Int} (c : Nat) (hj : (M.any fun q => Nat.testBit q.1 (ab_k c) && decide (q.2 = -2)) = true) (hi : 0 ≤ i) (hm : ab_md M (ab_k k) i = false) : k ≠ c := by
  intro e1
  subst e1
  exact mh_all hj hi hm
section EX
variable {l : Launch} {G : ax_T} {h : ax_H} {n : Nat}
theorem ex_bl10 (H : ab_HT h n) : ex_S l G mt_X10_blank [.ref 0] h n M_bl10 (fun x h' => x.toInt = ab_ri h 1 1 ∧ ab_rd h' 1 1 = some (.int (Int32.ofInt 0))) := by
  obtain ⟨⟨r, h', n'⟩, m, e, H', ⟨y, e1, e2⟩, e3, f⟩ := bl_X10 (l := l) (G := G) (d := 40) (by omega) (mc_HW_of H)
  have e' : n' = n := e
  have e1' : r = some (.int y) := e1
  subst e' e1'
  exact ⟨y, h', _, m, ht_of H H' (fun k i q => f k i (fun z => by rcases q with q | q | q | q | q <;> first | omega | (exact absurd q.1 (by omega)) | (subst z; exact absurd q (by decide)))), fun k _ i hi hm => f k i (md_ne 1 1 (by decide +kernel) hm), e2, e3⟩
theorem ex_bl11 (H : ab_HT h n) : ex_S l G mt_X11_blank [.ref 542] h n M_bl11 (fun x h' => x.toInt = ab_ri h 542 2 ∧ ab_rd h' 542 2 = some (.int (Int32.ofInt 0))) := by
  obtain ⟨⟨r, h', n'⟩, m, e, H', ⟨y, e1, e2⟩, e3, f⟩ := bl_X11 (l := l) (G := G) (d := 40) (by omega) (mc_HW_of H)
  have e' : n' = n := e
  have e1' : r = some (.int y) := e1
  subst e' e1'
  exact ⟨y, h', _, m, ht_of H H' (fun k i q => f k i (fun z => by rcases q with q | q | q | q | q <;> first | omega | (exact absurd q.1 (by omega)) | (have := q.2; omega) | (subst z; exact absurd q (by decide)))), fun k _ i hi hm => f k i (md_ne 542 2 (by decide +kernel) hm), e2, e3⟩
theorem ex_go10 (H : ab_HT h n) : ex_S l G mt_X10_good [.ref 0] h n [] (fun x h' => x.toInt = (pg_good (ab_ri h 2) (ab_ri h 1 1).toNat : Int)) := by
  obtain ⟨⟨r, h', n'⟩, m, e, e', y, e1, e2⟩ := mc_good10 (l := l) (G := G) (d := 40) (by omega) (mc_HW_of H)
  have e0 : h' = h := e
  have e0' : n' = n := e'
  have e1' : r = some (.int y) := e1
  subst e0 e0' e1'
  exact ⟨y, _, _, m, H, fun _ _ _ _ _ => rfl, e2⟩
theorem ex_go11 (H : ab_HT h n) : ex_S l G mt_X11_good [.ref 542] h n M_go11 (fun x h' => x.toInt = (pg_good (ab_ri h 545) (ab_ri h 542 2).toNat : Int) ∧ ∀ (k' : Nat) (i' : Int), (k' = 546 ∨ k' = 547 ∨ k' = 548 → i' < 14 * ab_ri h 542 4) → (k' = 542 → i' ≠ 25) → (k' = 542 → i' ≠ 26) → ab_rd h' k' i' = ab_rd h k' i') := by
  obtain ⟨⟨r, h', n'⟩, m, e, H', ⟨y, e1, e2⟩, f⟩ := mc_good11 (l := l) (G := G) (d := 40) (by omega) (mc_HW_of H)
  have e' : n' = n := e
  have e1' : r = some (.int y) := e1
  subst e' e1'
  have f' : ∀ (k : Nat) (i : Int), k ≠ 546 → k ≠ 547 → k ≠ 548 → (k = 542 → i ≠ 25) → (k = 542 → i ≠ 26) → ab_rd h' k i = ab_rd h k i := fun k i a b c p q => f k i (fun z => by omega) p q
  exact ⟨y, h', _, m, ht_of H H' (fun k i q => f' k i (fun z => by rcases q with q | q | q | q | q <;> first | omega | (subst z; exact absurd q (by decide))) (fun z => by rcases q with q | q | q | q | q <;> first | omega | (subst z; exact absurd q (by decide))) (fun z => by rcases q with q | q | q | q | q <;> first | omega | (subst z; exact absurd q (by decide))) (fun z => by rcases q with q | q | q | q | q <;> first | omega | (subst z; exact absurd q (by decide))) (fun z => by rcases q with q | q | q | q | q <;> first | omega | (subst z; exact absurd q (by decide)))), fun k _ i hi hm => f' k i (md_nek 546 (by decide +kernel) hi hm) (md_nek 547 (by decide +kernel) hi hm) (md_nek 548 (by decide +kernel) hi hm) (md_ne 542 25 (by decide +kernel) hm) (md_ne 542 26 (by decide +kernel) hm), e2, f⟩
theorem ex_le10 (H : ab_HT h n) (w : Int64) : ex_S l G mt_X10_letters [.ref 0, .long w] h n M_le10 (fun x h' => (¬ pg_lok w 8 ∧ x = Int32.ofInt (-102) ∧ h' = h) ∨ (pg_lok w 8 ∧ 80 < ab_ri h 1 1 + (pg_ln w 8 : Int) ∧ x = Int32.ofInt (-104) ∧ h' = h) ∨ (pg_lok w 8 ∧ ab_ri h 1 1 + (pg_ln w 8 : Int) ≤ 80 ∧ x.toInt = ab_ri h 1 1 + (pg_ln w 8 : Int) ∧ ab_ri h' 1 1 = ab_ri h 1 1 + (pg_ln w 8 : Int) ∧ (∀ t : Nat, t < pg_ln w 8 → ab_rd h' 2 (ab_ri h 1 1 + (t : Int)) = some (.int (lt_c w t))) ∧ ∀ (k' : Nat) (i' : Int), (k' = 2 → i' < ab_ri h 1 1) → (k' = 1 → i' ≠ 1) → ab_rd h' k' i' = ab_rd h k' i')) := by
  obtain ⟨⟨r, h', n'⟩, m, e, H', y, e1, hc⟩ := le_X10 (l := l) (G := G) (d := 40) (by omega) (mc_HW_of H) w
  have e' : n' = n := e
  have e1' : r = some (.int y) := e1
  subst e' e1'
  rcases hc with ⟨c1, c2, c3⟩ | ⟨c1, c2, c3, c4⟩ | ⟨c1, c2, c3, c4, c5, f⟩
  · have c3' : h' = h := c3
    exact ⟨y, h', _, m, ab_HT_same H c3' rfl, pb_f_same c3', Or.inl ⟨c1, c2, c3⟩⟩
  · have c4' : h' = h := c4
    exact ⟨y, h', _, m, ab_HT_same H c4' rfl, pb_f_same c4', Or.inr (Or.inl ⟨c1, c2, c3, c4⟩)⟩
  · exact ⟨y, h', _, m, ht_of H H' (fun k i q => f k i (fun z => by rcases q with q | q | q | q | q <;> first | omega | (subst z; exact absurd q (by decide))) (fun z => by rcases q with q | q | q | q | q <;> first | omega | (subst z; exact absurd q (by decide)))), fun k _ i hi hm => f k i (fun z => absurd z (md_nek 2 (by decide +kernel) hi hm)) (md_ne 1 1 (by decide +kernel) hm), Or.inr (Or.inr ⟨c1, c2, c3, c4, c5, f⟩)⟩
theorem ex_le11 (H : ab_HT h n) (w : Int64) : ex_S l G mt_X11_letters [.ref 542, .long w] h n M_le11 (fun x h' => (¬ pg_lok w 8 ∧ x = Int32.ofInt (-102) ∧ h' = h) ∨ (pg_lok w 8 ∧ 80 < ab_ri h 542 2 + (pg_ln w 8 : Int) ∧ x = Int32.ofInt (-104) ∧ h' = h) ∨ (pg_lok w 8 ∧ ab_ri h 542 2 + (pg_ln w 8 : Int) ≤ 80 ∧ x.toInt = ab_ri h 542 2 + (pg_ln w 8 : Int) ∧ ab_ri h' 542 2 = ab_ri h 542 2 + (pg_ln w 8 : Int) ∧ (∀ t : Nat, t < pg_ln w 8 → ab_rd h' 545 (ab_ri h 542 2 + (t : Int)) = some (.int (lt_c w t))) ∧ ∀ (k' : Nat) (i' : Int), (k' = 545 → i' < ab_ri h 542 2) → (k' = 542 → i' ≠ 2) → ab_rd h' k' i' = ab_rd h k' i')) := by
  obtain ⟨⟨r, h', n'⟩, m, e, H', y, e1, hc⟩ := le_X11 (l := l) (G := G) (d := 40) (by omega) (mc_HW_of H) w
  have e' : n' = n := e
  have e1' : r = some (.int y) := e1
  subst e' e1'
  rcases hc with ⟨c1, c2, c3⟩ | ⟨c1, c2, c3, c4⟩ | ⟨c1, c2, c3, c4, c5, f⟩
  · have c3' : h' = h := c3
    exact ⟨y, h', _, m, ab_HT_same H c3' rfl, pb_f_same c3', Or.inl ⟨c1, c2, c3⟩⟩
  · have c4' : h' = h := c4
    exact ⟨y, h', _, m, ab_HT_same H c4' rfl, pb_f_same c4', Or.inr (Or.inl ⟨c1, c2, c3, c4⟩)⟩
  · exact ⟨y, h', _, m, ht_of H H' (fun k i q => f k i (fun z => by rcases q with q | q | q | q | q <;> first | omega | (subst z; exact absurd q (by decide))) (fun z => by rcases q with q | q | q | q | q <;> first | omega | (subst z; exact absurd q (by decide)))), fun k _ i hi hm => f k i (fun z => absurd z (md_nek 545 (by decide +kernel) hi hm)) (md_ne 542 2 (by decide +kernel) hm), Or.inr (Or.inr ⟨c1, c2, c3, c4, c5, f⟩)⟩
theorem ex_cu10 (HA : ab_Hand l G) (H : ab_HT h n) (hC : ∀ k : Nat, k < 6 → pg_ck h k) (hZ : ∀ k : Nat, k < 6 → ab_ri h 0 8 = (k : Int) → pg_K h (123 + 4 * k) (124 + 4 * k) (125 + 4 * k) 0 (ab_ri h 2) 0) : ex_S l G mt_X10_custom [.ref 0] h n M_cu10 (fun x h' => (¬ pg_wh (ab_ri h 2) (ab_ri h 1 1).toNat ∧ x = Int32.ofInt (-103) ∧ pb_f [] n h h') ∨ (pg_wh (ab_ri h 2) (ab_ri h 1 1).toNat ∧ ab_ri h 0 8 = 6 ∧ x = Int32.ofInt (-104) ∧ pb_f [] n h h') ∨ (pg_wh (ab_ri h 2) (ab_ri h 1 1).toNat ∧ ∃ k : Nat, k < 6 ∧ ab_ri h 0 8 = (k : Int) ∧ x.toInt = (k : Int) ∧ ab_rd h' 0 8 = some (.int (Int32.ofInt ((k : Int) + 1))) ∧ ab_rd h' 1 1 = some (.int (Int32.ofInt 0)) ∧ cu_fr [(2, 1), (137438953472, 2), (1, 8)] n k h h' ∧ pg_K h' (123 + 4 * k) (124 + 4 * k) (125 + 4 * k) 0 (ab_ri h 2) (ab_ri h 1 1).toNat)) := by
  obtain ⟨⟨r, h', n'⟩, m, y, e1, hc⟩ := cu_X10 (l := l) (G := G) (d := 40) HA (by omega) H hC hZ
  have e1' : r = some (.int y) := e1
  subst e1'
  rcases hc with ⟨c1, c2, c3, c4⟩ | ⟨c1, c2, c3, c4, c5⟩ | ⟨c1, k, c2, c3, c4, c5, c6, c7, c8, c9, c10, c11⟩
  · have c3' : h' = h := c3
    have c4' : n' = n := c4
    exact ⟨y, h', n', m, ab_HT_same H c3' c4', pb_f_same c3', Or.inl ⟨c1, c2, pb_f_same c3'⟩⟩
  · have c4' : h' = h := c4
    have c5' : n' = n := c5
    exact ⟨y, h', n', m, ab_HT_same H c4' c5', pb_f_same c4', Or.inr (Or.inl ⟨c1, c2, c3, pb_f_same c4'⟩)⟩
  · exact ⟨y, h', n', m, c5, c9, Or.inr (Or.inr ⟨c1, k, c2, c3, c4, c7, c8, c10, c11⟩)⟩
theorem ex_cu11 (H : ab_HT h n) : ex_S l G mt_X11_custom [.ref 542] h n M_cu11 (fun x h' => (¬ pg_wh (ab_ri h 545) (ab_ri h 542 2).toNat ∧ x = Int32.ofInt (-103) ∧ pb_f M_go11 n h h' ∧ ∀ (k' : Nat) (i' : Int), (k' = 546 ∨ k' = 547 ∨ k' = 548 → i' < 14 * ab_ri h 542 4) → (k' = 542 → i' ≠ 25) → (k' = 542 → i' ≠ 26) → ab_rd h' k' i' = ab_rd h k' i') ∨ (pg_wh (ab_ri h 545) (ab_ri h 542 2).toNat ∧ ab_ri h 542 4 = 6 ∧ x = Int32.ofInt (-104) ∧ pb_f M_go11 n h h' ∧ ∀ (k' : Nat) (i' : Int), (k' = 546 ∨ k' = 547 ∨ k' = 548 → i' < 14 * ab_ri h 542 4) → (k' = 542 → i' ≠ 25) → (k' = 542 → i' ≠ 26) → ab_rd h' k' i' = ab_rd h k' i') ∨ (pg_wh (ab_ri h 545) (ab_ri h 542 2).toNat ∧ ab_ri h 542 4 ≤ 5 ∧ x.toInt = ab_ri h 542 4 ∧ ab_rd h' 542 4 = some (.int (Int32.ofInt (ab_ri h 542 4 + 1))) ∧ ab_rd h' 542 2 = some (.int (Int32.ofInt 0)) ∧ (∀ (k' : Nat) (i' : Int), (k' = 546 ∨ k' = 547 ∨ k' = 548 → i' < 14 * ab_ri h 542 4) → (k' = 542 → i' ≠ 25) → (k' = 542 → i' ≠ 26) → (k' = 542 → i' ≠ 2) → (k' = 542 → i' ≠ 4) → ab_rd h' k' i' = ab_rd h k' i') ∧ pg_K h' 546 547 548 (14 * ab_ri h 542 4) (ab_ri h 545) (ab_ri h 542 2).toNat)) := by
  obtain ⟨⟨r, h', n'⟩, m, e, H', y, e1, hc⟩ := cu_X11 (l := l) (G := G) (d := 40) (by omega) (mc_HW_of H)
  have e' : n' = n := e
  have e1' : r = some (.int y) := e1
  subst e' e1'
  have A : (∀ (k' : Nat) (i' : Int), (k' = 546 ∨ k' = 547 ∨ k' = 548 → i' < 14 * ab_ri h 542 4) → (k' = 542 → i' ≠ 25) → (k' = 542 → i' ≠ 26) → ab_rd h' k' i' = ab_rd h k' i') → ab_HT h' n' ∧ pb_f M_go11 n' h h' := by
    intro f
    have f' : ∀ (k : Nat) (i : Int), k ≠ 546 → k ≠ 547 → k ≠ 548 → (k = 542 → i ≠ 25) → (k = 542 → i ≠ 26) → ab_rd h' k i = ab_rd h k i := fun k i a b c p q => f k i (fun z => by omega) p q
    exact ⟨ht_of H H' (fun k i q => f' k i (fun z => by rcases q with q | q | q | q | q <;> first | omega | (subst z; exact absurd q (by decide))) (fun z => by rcases q with q | q | q | q | q <;> first | omega | (subst z; exact absurd q (by decide))) (fun z => by rcases q with q | q | q | q | q <;> first | omega | (subst z; exact absurd q (by decide))) (fun z => by rcases q with q | q | q | q | q <;> first | omega | (subst z; exact absurd q (by decide))) (fun z => by rcases q with q | q | q | q | q <;> first | omega | (subst z; exact absurd q (by decide)))), fun k _ i hi hm => f' k i (md_nek 546 (by decide +kernel) hi hm) (md_nek 547 (by decide +kernel) hi hm) (md_nek 548 (by decide +kernel) hi hm) (md_ne 542 25 (by decide +kernel) hm) (md_ne 542 26 (by decide +kernel) hm)⟩
  have up : pb_f M_go11 n' h h' → pb_f M_cu11 n' h h' := fun f k hk i hi hm => f k hk i hi (by
    have e1 : ab_md M_cu11 (ab_k k) i = (ab_md M_go11 (ab_k k) i || ab_md [(2 ^ 52, 2), (2 ^ 52, 4)] (ab_k k) i) := List.any_append (xs := M_go11) (ys := [(2 ^ 52, 2), (2 ^ 52, 4)])
    rw [e1, Bool.or_eq_false_iff] at hm
    exact hm.1)
  rcases hc with ⟨c1, c2, c3⟩ | ⟨c1, c2, c3, c4⟩ | ⟨c1, c2, c3, c4, c5, f, c7⟩
  · exact ⟨y, h', _, m, (A c3).1, up (A c3).2, Or.inl ⟨c1, c2, (A c3).2, c3⟩⟩
  · exact ⟨y, h', _, m, (A c4).1, up (A c4).2, Or.inr (Or.inl ⟨c1, c2, c3, (A c4).2, c4⟩)⟩
  · have f' : ∀ (k : Nat) (i : Int), k ≠ 546 → k ≠ 547 → k ≠ 548 → (k = 542 → i ≠ 25) → (k = 542 → i ≠ 26) → (k = 542 → i ≠ 2) → (k = 542 → i ≠ 4) → ab_rd h' k i = ab_rd h k i := fun k i a b c p q r s => f k i (fun z => by omega) p q r s
    exact ⟨y, h', _, m, ht_of H H' (fun k i q => f' k i (fun z => by rcases q with q | q | q | q | q <;> first | omega | (subst z; exact absurd q (by decide))) (fun z => by rcases q with q | q | q | q | q <;> first | omega | (subst z; exact absurd q (by decide))) (fun z => by rcases q with q | q | q | q | q <;> first | omega | (subst z; exact absurd q (by decide))) (fun z => by rcases q with q | q | q | q | q <;> first | omega | (subst z; exact absurd q (by decide))) (fun z => by rcases q with q | q | q | q | q <;> first | omega | (subst z; exact absurd q (by decide))) (fun z => by rcases q with q | q | q | q | q <;> first | omega | (subst z; exact absurd q (by decide))) (fun z => by rcases q with q | q | q | q | q <;> first | omega | (subst z; exact absurd q (by decide)))), fun k _ i hi hm => f' k i (md_nek 546 (by decide +kernel) hi hm) (md_nek 547 (by decide +kernel) hi hm) (md_nek 548 (by decide +kernel) hi hm) (md_ne 542 25 (by decide +kernel) hm) (md_ne 542 26 (by decide +kernel) hm) (md_ne 542 2 (by decide +kernel) hm) (md_ne 542 4 (by decide +kernel) hm), Or.inr (Or.inr ⟨c1, c2, c3, c4, c5, f, c7⟩)⟩
theorem ex_ro10 (HA : ab_Hand l G) (H : ab_HT h n) (r : Int32) : ex_S l G mt_X10_row [.ref 0, .int r] h n wq_1.2.2.2.1 (fun x h' => (¬ (0 ≤ r.toInt ∧ r.toInt ≤ 11) ∧ x = Int32.ofInt (-101) ∧ pb_f [] n h h') ∨ ((0 ≤ r.toInt ∧ r.toInt ≤ 11) ∧ ¬ pg_row (ab_ri h 2) (ab_ri h 1 1) ∧ x = Int32.ofInt (-103) ∧ pb_f [] n h h') ∨ ((0 ≤ r.toInt ∧ r.toInt ≤ 11) ∧ pg_row (ab_ri h 2) (ab_ri h 1 1) ∧ x.toInt = (ab_ri h 1 1) ∧ ab_rd h' 1 1 = some (.int (Int32.ofInt 0)))) := by
  obtain ⟨⟨r', h', n'⟩, m, y, e1, hc⟩ := rw_X10 (l := l) (G := G) (d := 40) HA (by omega) H r
  have e1' : r' = some (.int y) := e1
  subst e1'
  rcases hc with ⟨c1, c2, c3, c4⟩ | ⟨c1, c2, c3, c4, c5⟩ | ⟨c1, c2, c3, c4, c5, c6⟩
  · have c3' : h' = h := c3
    have c4' : n' = n := c4
    exact ⟨y, h', n', m, ab_HT_same H c3' c4', pb_f_same c3', Or.inl ⟨c1, c2, pb_f_same c3'⟩⟩
  · have c4' : h' = h := c4
    have c5' : n' = n := c5
    exact ⟨y, h', n', m, ab_HT_same H c4' c5', pb_f_same c4', Or.inr (Or.inl ⟨c1, c2, c3, pb_f_same c4'⟩)⟩
  · exact ⟨y, h', n', m, c4, c6, Or.inr (Or.inr ⟨c1, c2, c3, c5⟩)⟩
theorem ex_ro11 (HA : ab_Hand l G) (H : ab_HT h n) (r : Int32) : ex_S l G mt_X11_row [.ref 542, .int r] h n wq_2.2.2.2.1 (fun x h' => (¬ (0 ≤ r.toInt ∧ r.toInt ≤ 11) ∧ x = Int32.ofInt (-101) ∧ pb_f [] n h h') ∨ ((0 ≤ r.toInt ∧ r.toInt ≤ 11) ∧ ¬ pg_row (ab_ri h 545) (ab_ri h 542 2) ∧ x = Int32.ofInt (-103) ∧ pb_f [] n h h') ∨ ((0 ≤ r.toInt ∧ r.toInt ≤ 11) ∧ pg_row (ab_ri h 545) (ab_ri h 542 2) ∧ x.toInt = (ab_ri h 542 2) ∧ ab_rd h' 542 2 = some (.int (Int32.ofInt 0)))) := by
  obtain ⟨⟨r', h', n'⟩, m, y, e1, hc⟩ := rw_X11 (l := l) (G := G) (d := 40) HA (by omega) H r
  have e1' : r' = some (.int y) := e1
  subst e1'
  rcases hc with ⟨c1, c2, c3, c4⟩ | ⟨c1, c2, c3, c4, c5⟩ | ⟨c1, c2, c3, c4, c5, c6⟩
  · have c3' : h' = h := c3
    have c4' : n' = n := c4
    exact ⟨y, h', n', m, ab_HT_same H c3' c4', pb_f_same c3', Or.inl ⟨c1, c2, pb_f_same c3'⟩⟩
  · have c4' : h' = h := c4
    have c5' : n' = n := c5
    exact ⟨y, h', n', m, ab_HT_same H c4' c5', pb_f_same c4', Or.inr (Or.inl ⟨c1, c2, c3, pb_f_same c4'⟩)⟩
  · exact ⟨y, h', n', m, c4, c6, Or.inr (Or.inr ⟨c1, c2, c3, c5⟩)⟩
theorem ex_st10 (H : ab_HT h n) : ex_S l G mt_X10_stone [.ref 0] h n mh_10s (fun x h' => (¬ pg_st (ab_ri h 2) (ab_ri h 1 1) ∧ x = Int32.ofInt (-103) ∧ h' = h) ∨ (pg_st (ab_ri h 2) (ab_ri h 1 1) ∧ x.toInt = pg_po (ab_ri h 2) (ab_ri h 1 1) ∧ ab_rd h' 1 1 = some (.int (Int32.ofInt 0)))) := by
  have hW := mc_HW_of H
  obtain ⟨⟨r, h', n'⟩, m, e, H', ⟨y, e1, hy⟩, f, g⟩ := mc_stone10E (l := l) (G := G) (d := 40) sgn_ok (by omega) hW
  have e' : n' = n := e
  have e1' : r = some (.int y) := e1
  subst e' e1'
  refine ⟨y, h', _, m, mc_HT_of H' ?_, (fun k _ i hi hm => f k i (fun e => by subst e; exact mh_all (κ := ab_k 29) (by decide +kernel) hi hm) (fun e1 e2 => by subst e1; subst e2; exact absurd hm (by decide +kernel)) (fun e1 e2 => by subst e1; subst e2; exact absurd hm (by decide +kernel)) (fun e1 e2 => by subst e1; subst e2; exact absurd hm (by decide +kernel)) (fun e1 e2 => by subst e1; subst e2; exact absurd hm (by decide +kernel))), hy.imp (fun z => ⟨z.2.1, z.1, z.2.2⟩) id⟩
  obtain ⟨j1, j2, j3⟩ := H.2.2.1
  refine ⟨g j1, ?_, fun w hw => ?_⟩
  · rw [ab_ri_of (f 542 14 (by decide) (by decide) (by decide) (by decide) (by decide)), ab_gc_of _ (fun i _ => f 554 i (by decide) (fun q => absurd q (by decide)) (fun q => absurd q (by decide)) (fun q => absurd q (by decide)) (fun q => absurd q (by decide)))]
    exact j2
  · rw [f 28 4 (by decide) (by decide) (by decide) (by decide) (by decide)] at hw
    have hkw : ab_k w = 34 := by
      obtain ⟨fs, v, -, -, ⟨k', rfl, -, k2⟩, k3⟩ := mc_fld (k := 28) (j := 4) (ci := 7) (τ := .inr (some 17179869184)) hW rfl rfl
      have : (some (Value.ref k') : Option Value) = some (.ref w) := k3.symm.trans hw
      cases this
      have := (Nat.testBit_two_pow (n := 34) (m := ab_k w)).symm.trans (show Nat.testBit (2 ^ 34) (ab_k w) = true from k2)
      have := of_decide_eq_true this
      omega
    have hw29 : w ≠ 29 := fun e => by subst e; exact absurd hkw (by decide)
    have hw28 : w ≠ 28 := fun e => by subst e; exact absurd hkw (by decide)
    have hw1 : w ≠ 1 := fun e => by subst e; exact absurd hkw (by decide)
    rw [ab_ri_of (f 28 6 (by decide) (by decide) (by decide) (by decide) (by decide)), ab_ri_of (f 28 7 (by decide) (by decide) (by decide) (by decide) (by decide)), ab_ri_of (f w (-1) hw29 (fun e => absurd e hw28) (fun e => absurd e hw28) (fun e => absurd e hw28) (fun e => absurd e hw1))]
    exact j3 w hw
theorem ex_st11 (H : ab_HT h n) : ex_S l G mt_X11_stone [.ref 542] h n mh_11s (fun x h' => (¬ pg_st (ab_ri h 545) (ab_ri h 542 2) ∧ x = Int32.ofInt (-103) ∧ h' = h) ∨ (pg_st (ab_ri h 545) (ab_ri h 542 2) ∧ x.toInt = pg_po (ab_ri h 545) (ab_ri h 542 2) ∧ ab_rd h' 542 2 = some (.int (Int32.ofInt 0)))) := by
  have hW := mc_HW_of H
  obtain ⟨⟨r, h', n'⟩, m, e, H', ⟨y, e1, hy⟩, f, g⟩ := mc_stoneE (l := l) (G := G) (d := 40) (by omega) hW
  have e' : n' = n := e
  have e1' : r = some (.int y) := e1
  subst e' e1'
  refine ⟨y, h', _, m, mc_HT_of H' ?_, (fun k _ i hi hm => f k i (fun e => by subst e; exact mh_all (κ := ab_k 554) (by decide +kernel) hi hm) (fun e1 e2 => by subst e1; subst e2; exact absurd hm (by decide +kernel)) (fun e1 e2 => by subst e1; subst e2; exact absurd hm (by decide +kernel)) (fun e1 e2 => by subst e1; subst e2; exact absurd hm (by decide +kernel))), hy.imp (fun z => ⟨z.2.1, z.1, z.2.2⟩) id⟩
  obtain ⟨⟨j1, j2, j3⟩, j4, j5⟩ := H.2.2.1
  have r : ∀ (k : Nat) (i : Int), k ≠ 554 → k ≠ 542 → ab_rd h' k i = ab_rd h k i := fun k i a b => f k i a (fun e => absurd e b) (fun e => absurd e b) (fun e => absurd e b)
  refine ⟨⟨?_, ?_, ?_⟩, g j4, fun w hw => ?_⟩
  · rw [ab_ri_of (r 28 1 (by decide) (by decide)), ab_gc_of _ (fun i _ => r 29 i (by decide) (by decide))]; exact j1
  · rw [ab_ri_of (r 28 1 (by decide) (by decide)), ab_ri_of (r 28 2 (by decide) (by decide))]; exact j2
  · rw [ab_ri_of (r 28 1 (by decide) (by decide)), ab_ri_of (r 28 2 (by decide) (by decide))]; exact j3
  · rw [r 28 4 (by decide) (by decide)] at hw
    have hkw : ab_k w = 34 := by
      obtain ⟨fs, v, -, -, ⟨k', rfl, -, k2⟩, k3⟩ := mc_fld (k := 28) (j := 4) (ci := 7) (τ := .inr (some 17179869184)) hW rfl rfl
      have : (some (Value.ref k') : Option Value) = some (.ref w) := k3.symm.trans hw
      cases this
      have := (Nat.testBit_two_pow (n := 34) (m := ab_k w)).symm.trans (show Nat.testBit (2 ^ 34) (ab_k w) = true from k2)
      have := of_decide_eq_true this
      omega
    have hw1 : w ≠ 554 := fun e => by subst e; exact absurd hkw (by decide)
    have hw2 : w ≠ 542 := fun e => by subst e; exact absurd hkw (by decide)
    rw [ab_ri_of (r 28 6 (by decide) (by decide)), ab_ri_of (r 28 7 (by decide) (by decide)), ab_ri_of (r w (-1) hw1 hw2)]
    exact j5 w hw
end EX
