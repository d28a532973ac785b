section
/-! ===== by hand: fillTo and fillAll, in the reference (ways printed by wip/hand/h_fillto.py) ===== -/
set_option maxRecDepth 100000 in
theorem Hn_up {o : Nat → Bool} {dg : Nat → Nat} {s : Nat} : ∀ j : Nat, j ≤ s → (∀ i, i < j → dg i ≤ 13) → (Hn o dg j + 1) * Wc o s (s - j) ≤ Pf o s
  | 0, _, _ => by
    rw [Nat.sub_zero, Wc_all]
    show (0 + 1) * _ ≤ _
    omega
  | j + 1, h, hd => by
    refine Nat.le_trans ?_ (Hn_up j (by omega) (fun i hi => hd i (by omega)))
    rw [Wc_s (show j < s by omega)]
    have := hd j (by omega)
    rw [Hn_s]
    cases ho : o j with
    | true =>
      rw [if_pos rfl, if_pos rfl, ← Nat.mul_assoc]
      exact Nat.mul_le_mul_right _ (by omega)
    | false =>
      rw [if_neg (show ¬ (false = true) by decide), if_neg (show ¬ (dg j = 14) by omega), if_neg (show ¬ (false = true) by decide), Nat.one_mul]
      exact Nat.le_refl _
def NN (o : Nat → Bool) (dg : Nat → Nat) (s j : Nat) : Nat := Hn o dg (j + 1) * Wc o s (s - (j + 1))
set_option maxRecDepth 100000 in
theorem NN_push {o : Nat → Bool} {dg dg' : Nat → Nat} {s j : Nat} (hj : j + 1 < s) (he : ∀ i, i ≤ j → dg' i = dg i) (hn : (o (j + 1) = true → dg' (j + 1) = 0) ∧ dg' (j + 1) ≤ 13) : NN o dg' s (j + 1) = NN o dg s j := by
  have e1 : Hn o dg' (j + 1) = Hn o dg (j + 1) := Hn_of (j + 1) (fun i hi => he i (by omega))
  unfold NN
  rw [Wc_s hj]
  show (if o (j + 1) then Hn o dg' (j + 1) * 14 + dg' (j + 1) else Hn o dg' (j + 1) + (if dg' (j + 1) = 14 then 1 else 0)) * _ = _
  rw [e1]
  cases ho : o (j + 1) with
  | true => rw [if_pos rfl, if_pos rfl, hn.1 ho, Nat.add_zero, Nat.mul_assoc]
  | false => rw [if_neg (show ¬ (false = true) by decide), if_neg (show ¬ (dg' (j + 1) = 14) by omega), if_neg (show ¬ (false = true) by decide), Nat.one_mul, Nat.add_zero]
set_option maxRecDepth 100000 in
theorem NN_adv {o : Nat → Bool} {dg dg' : Nat → Nat} {s j : Nat} (he : ∀ i, i < j → dg' i = dg i) (hd : dg j ≤ 13) (hn : dg' j = if o j then dg j + 1 else 14) : NN o dg' s j = NN o dg s j + Wc o s (s - (j + 1)) := by
  have e1 : Hn o dg' j = Hn o dg j := Hn_of j he
  unfold NN
  show (if o j then Hn o dg' j * 14 + dg' j else Hn o dg' j + (if dg' j = 14 then 1 else 0)) * _ = (if o j then Hn o dg j * 14 + dg j else Hn o dg j + (if dg j = 14 then 1 else 0)) * _ + _
  rw [e1]
  cases ho : o j with
  | true =>
    rw [ho, if_pos rfl] at hn
    rw [if_pos rfl, if_pos rfl, hn, ← Nat.add_assoc, Nat.succ_mul]
  | false =>
    rw [ho, if_neg (by decide)] at hn
    rw [if_neg (show ¬ (false = true) by decide), hn, if_pos rfl, if_neg (show ¬ (false = true) by decide), if_neg (show ¬ (dg j = 14) by omega), Nat.add_zero, Nat.succ_mul]
    rfl
set_option maxRecDepth 100000 in
theorem NN_pop {o : Nat → Bool} {dg dg' : Nat → Nat} {s j : Nat} (hj : j + 1 < s) (he : ∀ i, i < j → dg' i = dg i) (hd : dg j ≤ 13) (h14 : dg (j + 1) = 14) (hn : dg' j = if o j then dg j + 1 else 14) : NN o dg' s j = NN o dg s (j + 1) := by
  rw [NN_adv he hd hn]
  unfold NN
  rw [Wc_s hj]
  show _ = (if o (j + 1) then Hn o dg (j + 1) * 14 + dg (j + 1) else Hn o dg (j + 1) + (if dg (j + 1) = 14 then 1 else 0)) * _
  rw [h14]
  cases ho : o (j + 1) with
  | true =>
    rw [if_pos rfl, if_pos rfl, show Hn o dg (j + 1) * 14 + 14 = (Hn o dg (j + 1) + 1) * 14 by omega, Nat.mul_assoc]
    exact (Nat.succ_mul _ _).symm
  | false =>
    rw [if_neg (show ¬ (false = true) by decide), if_neg (show ¬ (false = true) by decide), if_pos rfl, Nat.one_mul]
    exact (Nat.succ_mul _ _).symm
set_option maxRecDepth 100000 in
theorem NN_last {o : Nat → Bool} {dg : Nat → Nat} {s : Nat} (hs : 0 < s) (h14 : dg 0 = 14) : NN o dg s 0 = Pf o s := by
  rw [← Wc_all]
  have := Wc_s (o := o) (show 0 < s by omega)
  rw [Nat.sub_zero] at this
  rw [this]
  unfold NN
  show (if o 0 then 0 * 14 + dg 0 else 0 + (if dg 0 = 14 then 1 else 0)) * _ = _
  rw [h14]
  split
  · rfl
  · rw [if_pos rfl]
set_option maxRecDepth 100000 in
theorem NN_lt {o : Nat → Bool} {dg : Nat → Nat} {s j : Nat} (hj : j < s) (hd : ∀ i, i ≤ j → dg i ≤ 13) : NN o dg s j + Wc o s (s - (j + 1)) ≤ Pf o s := by
  have := Hn_up (o := o) (dg := dg) (s := s) (j + 1) (by omega) (fun i hi => hd i (by omega))
  rw [Nat.succ_mul] at this
  exact this
def dgs (h : ax_H) (i : Nat) : Nat := (ab_ri h 571 (i : Int)).toNat
-- what fillTo leaves alone
def FRF (h h' : ax_H) : Prop := ∀ (k : Nat) (i : Int), k ≠ 568 → k ≠ 569 → k ≠ 570 → k ≠ 571 → (k = 542 → i ≠ 37) → ab_rd h' k i = ab_rd h k i
set_option maxRecDepth 100000 in
theorem FRF_fo {h h' : ax_H} (f : FRF h h') (j : Nat) : fo h' j = fo h j := by
  have e1 : ab_ri h' 542 14 = ab_ri h 542 14 := ab_ri_of (f 542 14 (by decide) (by decide) (by decide) (by decide) (by decide))
  have e2 : ab_ri h' 554 (j : Int) = ab_ri h 554 (j : Int) := ab_ri_of (f 554 _ (by decide) (by decide) (by decide) (by decide) (fun q => absurd q (by decide)))
  unfold fo
  rw [e1, e2]
set_option maxRecDepth 100000 in
theorem FRF.trans {h h1 h2 : ax_H} (a : FRF h h1) (b : FRF h1 h2) : FRF h h2 := fun k i p1 p2 p3 p4 p5 => (b k i p1 p2 p3 p4 p5).trans (a k i p1 p2 p3 p4 p5)
-- where the filling stands
def FIv (h h' : ax_H) (n s j : Nat) : Prop := mc_HW h' n ∧ FRF h h' ∧ (∀ i : Nat, i < j → 0 ≤ ab_ri h' 571 (i : Int) ∧ ab_ri h' 571 (i : Int) ≤ 13) ∧ (0 ≤ ab_ri h' 571 (j : Int) ∧ ab_ri h' 571 (j : Int) ≤ 14) ∧
  ab_ri h 542 37 ≤ ab_ri h' 542 37 ∧ (nz (ab_ri h' 569) 131072 : Int) ≤ ab_ri h' 542 37 ∧ ab_ri h' 542 37 ≤ ab_ri h 542 37 + (psi (Pf (fo h) s) (NN (fo h) (dgs h') s j) : Int)
def FM (h h' : ax_H) (s j : Nat) : Nat := (Pf (fo h) s - NN (fo h) (dgs h') s j) * 64 + (if ab_ri h' 571 (j : Int) = 14 then 22 + j else 21 - j)
def QF (h : ax_H) (n s : Nat) : Option Value → ax_H → Nat → Prop := fun r' h' n' => n' = n ∧ r' = none ∧ mc_HW h' n ∧ FRF h h' ∧ ab_ri h 542 37 ≤ ab_ri h' 542 37 ∧ (nz (ab_ri h' 569) 131072 : Int) ≤ ab_ri h' 542 37 ∧ ab_ri h' 542 37 ≤ ab_ri h 542 37 + (psi (Pf (fo h) s) (Pf (fo h) s) : Int)
-- a digit is written
set_option maxRecDepth 100000 in
theorem FW {h h1 h2 : ax_H} {j : Nat} {v : Int32} (f : FRF h h1) (w : ∀ (k' : Nat) (i' : Int), ab_rd h2 k' i' = if k' = 571 ∧ i' = (j : Int) then some (.int v) else ab_rd h1 k' i') : FRF h h2 ∧ (∀ i : Nat, i ≠ j → ab_ri h2 571 (i : Int) = ab_ri h1 571 (i : Int)) ∧ ab_ri h2 571 (j : Int) = v.toInt ∧ ab_ri h2 542 37 = ab_ri h1 542 37 ∧ nz (ab_ri h2 569) 131072 = nz (ab_ri h1 569) 131072 := by
  have g := mc_ri w
  refine ⟨fun k i p1 p2 p3 p4 p5 => ?_, fun i hi => ?_, ?_, ?_, ?_⟩
  · rw [w, if_neg (fun q => p4 q.1)]; exact f k i p1 p2 p3 p4 p5
  · rw [g, if_neg (fun q => by have := q.2; omega)]
  · rw [g, if_pos ⟨rfl, rfl⟩]
  · rw [g, if_neg (fun q => absurd q.1 (by decide))]
  · exact nz_of _ (fun i _ => by rw [g, if_neg (fun q => absurd q.1 (by decide))])
-- one more at a place: the digit was not used up
set_option maxRecDepth 100000 in
theorem FA {h h0 h1 h2 : ax_H} {n s j c : Nat} {v : Int32} (hs21 : s ≤ 21) (I : FIv h h0 n s j) (hj : j < s) (h13 : ab_ri h0 571 (j : Int) ≤ 13) (H2 : mc_HW h2 n) (f1 : FRF h h1) (e1 : ∀ i : Nat, i ≤ j → ab_ri h1 571 (i : Int) = ab_ri h0 571 (i : Int))
    (w : ∀ (k' : Nat) (i' : Int), ab_rd h2 k' i' = if k' = 571 ∧ i' = (j : Int) then some (.int v) else ab_rd h1 k' i') (hv : v.toInt = if fo h j then ab_ri h0 571 (j : Int) + 1 else 14) (s1 : ab_ri h0 542 37 ≤ ab_ri h1 542 37) (z1 : (nz (ab_ri h1 569) 131072 : Int) ≤ ab_ri h1 542 37)
    (b1 : ab_ri h1 542 37 ≤ ab_ri h 542 37 + (psi (Pf (fo h) s) (NN (fo h) (dgs h0) s j + Wc (fo h) s (s - (j + 1))) : Int)) (hM : FM h h0 s j ≤ c + 1) : FIv h h2 n s j ∧ FM h h2 s j ≤ c := by
  obtain ⟨i1, i2, i3, i4, i5, i6, i7⟩ := I
  obtain ⟨k1, k2, k3, k4, k5⟩ := FW f1 w
  have hN : NN (fo h) (dgs h2) s j = NN (fo h) (dgs h0) s j + Wc (fo h) s (s - (j + 1)) := by
    refine NN_adv (fun i hi => ?_) ?_ ?_
    · unfold dgs; rw [k2 i (by omega), e1 i (by omega)]
    · unfold dgs; omega
    · unfold dgs
      rw [k3, hv]
      split <;> omega
  have hlt := NN_lt (o := fo h) (dg := dgs h0) (s := s) hj (fun i hi => by
    unfold dgs
    by_cases e : i = j
    · rw [e]; omega
    · have := i3 i (by omega); omega)
  have hW := Wc_pos (o := fo h) (s := s) (s - (j + 1))
  refine ⟨⟨H2, k1, fun i hi => ?_, ?_, by omega, by rw [k5, k4]; exact z1, by rw [k4, hN]; exact b1⟩, ?_⟩
  · rw [k2 i (by omega), e1 i (by omega)]; exact i3 i hi
  · rw [k3, hv]; split <;> omega
  · unfold FM at hM ⊢
    rw [hN]
    split at hM <;> split <;> omega
set_option maxRecDepth 100000 in
theorem FP {h h0 h2 : ax_H} {n s j c : Nat} {v : Int32} (I : FIv h h0 n s (j + 1)) (hj : j + 1 < s) (h14 : ab_ri h0 571 ((j + 1 : Nat) : Int) = 14) (H2 : mc_HW h2 n)
    (w : ∀ (k' : Nat) (i' : Int), ab_rd h2 k' i' = if k' = 571 ∧ i' = (j : Int) then some (.int v) else ab_rd h0 k' i') (hv : v.toInt = if fo h j then ab_ri h0 571 (j : Int) + 1 else 14) (hM : FM h h0 s (j + 1) ≤ c + 1) (h20 : j + 1 ≤ 20) : FIv h h2 n s j ∧ FM h h2 s j ≤ c := by
  obtain ⟨i1, i2, i3, i4, i5, i6, i7⟩ := I
  obtain ⟨k1, k2, k3, k4, k5⟩ := FW i2 w
  have hdj := i3 j (by omega)
  have hN : NN (fo h) (dgs h2) s j = NN (fo h) (dgs h0) s (j + 1) := by
    refine NN_pop hj (fun i hi => ?_) ?_ ?_ ?_
    · unfold dgs; rw [k2 i (by omega)]
    · unfold dgs; omega
    · unfold dgs; rw [h14]; rfl
    · unfold dgs
      rw [k3, hv]
      split <;> omega
  refine ⟨⟨H2, k1, fun i hi => ?_, ?_, by omega, by rw [k5, k4]; exact i6, by rw [k4, hN]; exact i7⟩, ?_⟩
  · rw [k2 i (by omega)]; exact i3 i (by omega)
  · rw [k3, hv]; split <;> omega
  · unfold FM at hM ⊢
    rw [hN]
    rw [if_pos h14] at hM
    split <;> omega
set_option maxRecDepth 100000 in
theorem FD {h h0 h2 : ax_H} {n s j c : Nat} {v : Int32} (I : FIv h h0 n s j) (hj : j + 1 < s) (h13 : ab_ri h0 571 (j : Int) ≤ 13) (H2 : mc_HW h2 n)
    (w : ∀ (k' : Nat) (i' : Int), ab_rd h2 k' i' = if k' = 571 ∧ i' = ((j + 1 : Nat) : Int) then some (.int v) else ab_rd h0 k' i') (hv : v.toInt = if fo h (j + 1) then 0 else ab_ri h 554 ((j + 1 : Nat) : Int)) (hv0 : 0 ≤ v.toInt) (hv1 : v.toInt ≤ 13) (hM : FM h h0 s j ≤ c + 1) (h20 : j + 1 ≤ 20) : FIv h h2 n s (j + 1) ∧ FM h h2 s (j + 1) ≤ c := by
  obtain ⟨i1, i2, i3, i4, i5, i6, i7⟩ := I
  obtain ⟨k1, k2, k3, k4, k5⟩ := FW i2 w
  have hN : NN (fo h) (dgs h2) s (j + 1) = NN (fo h) (dgs h0) s j := by
    refine NN_push hj (fun i hi => ?_) ⟨fun ho => ?_, ?_⟩
    · unfold dgs; rw [k2 i (by omega)]
    · unfold dgs; rw [k3, hv, ho]; rfl
    · unfold dgs; rw [k3]; omega
  refine ⟨⟨H2, k1, fun i hi => ?_, ?_, by omega, by rw [k5, k4]; exact i6, by rw [k4, hN]; exact i7⟩, ?_⟩
  · rw [k2 i (by omega)]
    by_cases e : i = j
    · rw [e]; exact ⟨i4.1, h13⟩
    · exact i3 i (by omega)
  · rw [k3]; omega
  · unfold FM at hM ⊢
    rw [hN]
    rw [if_neg (by omega)] at hM
    rw [if_neg (by rw [k3]; omega)]
    omega
end
section
/-! ===== by hand: fillTo's loop, fillAll, in the reference (ways printed by wip/hand/h_fillto.py) ===== -/
set_option maxRecDepth 100000 in
theorem ft_loop {l : Launch} {G : ax_T} {d : Nat} {h : ax_H} {n : Nat} (hd : 3 ≤ d) (H : mc_HW h n) (k s : Int32) (hk0 : 0 ≤ k.toInt) (hk1 : k.toInt ≤ 5) {N : Nat} (hs : s.toInt = (N : Int)) (hN : N ≤ 21) (hS0 : 0 ≤ ab_ri h 542 37) (hB : ab_ri h 542 37 + (psi (Pf (fo h) N) (Pf (fo h) N) : Int) ≤ 40000) : ∀ (c : Nat) (h' : ax_H) (a : Int32) (j : Nat), a.toInt = (j : Int) → j < N → FIv h h' n N j → FM h h' N j ≤ c → mc_R l G mt_X11_fillTo d (QF h n N) (13, [(0, .ref 542), (1, .int k), (2, .int s), (3, .int a)], [], h', n, 0, 0) := by
  have hmi : mt_X11_fillTo ∈ mt_prog := List.mem_of_getElem? mi_X11_fillTo
  have hp : 0 ≤ ab_ri h 542 14 ∧ ab_ri h 542 14 ≤ 20 := mc_frng H (k := 542) (j := 14) (ci := 11) rfl rfl
  intro c
  induction c with
  | zero =>
    intro h' a j ha hj I hM
    have : 1 ≤ FM h h' N j := by unfold FM; split <;> omega
    omega
  | succ c ih =>
    intro h' a j ha hj I hM
    obtain ⟨i1, i2, i3, i4, i5, i6, i7⟩ := id I
    refine mc_cx hmi 1 (F' := (14, [(0, .ref 542), (1, .int k), (2, .int s), (3, .int a)], [.int a], h', n, 0, 0)) (by with_unfolding_all rfl) ?_
    refine mc_cz hmi (c := .lt) (tg := 134) (pc' := 17) rfl rfl rfl ha (fun (q1 : (j : Int) < 0) => ?_) (fun (q1 : 0 ≤ (j : Int)) => ?_)
    · exact absurd q1 (by omega)
    · refine mc_cx hmi 1 (F' := (18, [(0, .ref 542), (1, .int k), (2, .int s), (3, .int a)], [.ref 542], h', n, 0, 0)) (by with_unfolding_all rfl) ?_
      refine mc_getr hmi i1 (k := 542) (c := 571) (pc' := 21) rfl rfl rfl rfl rfl ?_
      refine mc_cx hmi 1 (F' := (22, [(0, .ref 542), (1, .int k), (2, .int s), (3, .int a)], [.int a, .ref 571], h', n, 0, 0)) (by with_unfolding_all rfl) ?_
      refine mc_iald hmi i1 (k := 571) (i := (j : Int)) (pc' := 23) rfl rfl rfl ha (by omega) (by omega) rfl (fun y2 e3 r4 r5 => ?_)
      rw [e3] at r4 r5
      refine mc_cx hmi 1 (F' := (25, [(0, .ref 542), (1, .int k), (2, .int s), (3, .int a)], [.int (Int8.ofInt 14).toInt32, .int y2], h', n, 0, 0)) (by with_unfolding_all rfl) ?_
      refine mc_ci hmi (c := .ne) (tg := 49) (pc' := 28) rfl rfl rfl e3 (by decide) (fun (q6 : ab_ri h' 571 ((j : Int)) ≠ 14) => ?_) (fun (q6 : ab_ri h' 571 ((j : Int)) = 14) => ?_)
      · have h13 : ab_ri h' 571 (j : Int) ≤ 13 := by have := i4.2; omega
        have hall : ∀ z : Int, 0 ≤ z → z < (j : Int) + 1 → 0 ≤ ab_ri h' 571 z ∧ ab_ri h' 571 z ≤ 13 := by
          intro z z0 z1
          by_cases e : z = (j : Int)
          · rw [e]; exact ⟨i4.1, h13⟩
          · have := i3 z.toNat (by omega); rw [show ((z.toNat : Nat) : Int) = z by omega] at this; exact this
        have hNl := NN_lt (o := fo h) (dg := dgs h') (s := N) hj (fun i hi => by have := hall (i : Int) (by omega) (by omega); unfold dgs; omega)
        have hW := Wc_pos (o := fo h) (s := N) (N - (j + 1))
        have b0 : ab_ri h' 542 37 ≤ ab_ri h 542 37 + (psi (Pf (fo h) N) (NN (fo h) (dgs h') N j + Wc (fo h) N (N - (j + 1))) : Int) := by have := psi_mono (T := Pf (fo h) N) (Nat.le_add_right (NN (fo h) (dgs h') N j) (Wc (fo h) N (N - (j + 1)))); omega
        refine mc_cx hmi 2 (F' := (51, [(0, .ref 542), (1, .int k), (2, .int s), (3, .int a)], [.ref 542, .ref 542], h', n, 0, 0)) (by with_unfolding_all rfl) ?_
        refine mc_getr hmi i1 (k := 542) (c := 571) (pc' := 54) rfl rfl rfl rfl rfl ?_
        refine mc_cx hmi 9 (F' := (63, [(0, .ref 542), (1, .int k), (2, .int s), (3, .int a)], [.int s, .int (a + (Int32.ofInt 1)), .int k, .int (a + (Int32.ofInt 1)), .int (Int32.ofInt 0), .ref 571, .ref 542], h', n, 0, 0)) (by with_unfolding_all rfl) ?_
        have e18 : (a + (Int32.ofInt 1)).toInt = (j : Int) + 1 := mc_add ha (by decide) (by omega) (by omega)
        have e19 : (a + (Int32.ofInt 1)).toInt = (j : Int) + 1 := mc_add ha (by decide) (by omega) (by omega)
        have key : ∀ u : Int32, (j + 1 = N → u.toInt ≠ 0) → mc_R l G mt_X11_fillTo d (QF h n N) (71, [(0, .ref 542), (1, .int k), (2, .int s), (3, .int a)], [.int u, .int k, .int (a + (Int32.ofInt 1)), .int (Int32.ofInt 0), .ref 571, .ref 542], h', n, 0, 0) := by
          intro u hu
          refine mc_callP hmi (en := (71, .invokevirtual 162, 3, (3, 168, 11, 0), [1338, 80, 1336])) rfl (q := (mt_X11_keepsAll, [.ref 542, .ref 571, .int (Int32.ofInt 0), .int (a + (Int32.ofInt 1)), .int k, .int u], [])) (mc_inv i1 (as := [.ref 571, .int (Int32.ofInt 0), .int (a + (Int32.ofInt 1)), .int k, .int u]) (rest := []) rfl (by with_unfolding_all rfl) rfl rfl rfl) ⟨rfl, rfl⟩ (pc' := 74) rfl (mc_keepsAll hd i1 (Int32.ofInt 0) (a + (Int32.ofInt 1)) k u (by decide) (by rw [e19]; omega) (by rw [e19]; omega) hk0 hk1 (by rw [e19]; exact hall)) (fun y20 e21 => ?_)
          refine mc_cz hmi (c := .ne) (tg := 91) (pc' := 77) rfl rfl rfl rfl (fun (q22 : y20.toInt ≠ 0) => ?_) (fun (q22 : y20.toInt = 0) => ?_)
          · refine mc_cx hmi 4 (F' := (95, [(0, .ref 542), (1, .int k), (2, .int s), (3, .int a)], [.int s, .int (a + (Int32.ofInt 1))], h', n, 0, 0)) (by with_unfolding_all rfl) ?_
            have e30 : (a + (Int32.ofInt 1)).toInt = (j : Int) + 1 := mc_add ha (by decide) (by omega) (by omega)
            refine mc_ci hmi (c := .ne) (tg := 117) (pc' := 98) rfl rfl rfl e30 hs (fun (q31 : ((j : Int) + 1) ≠ (N : Int)) => ?_) (fun (q31 : ((j : Int) + 1) = (N : Int)) => ?_)
            · refine mc_cx hmi 2 (F' := (121, [(3, .int (a + Int32.ofInt 1)), (0, .ref 542), (1, .int k), (2, .int s)], [.ref 542], h', n, 0, 0)) (by with_unfolding_all rfl) ?_
              have e32 : (a + Int32.ofInt 1).toInt = (j : Int) + 1 := mc_add ha (by decide) (by omega) (by omega)
              refine mc_getr hmi i1 (k := 542) (c := 571) (pc' := 124) rfl rfl rfl rfl rfl ?_
              refine mc_cx hmi 3 (F' := (127, [(3, .int (a + Int32.ofInt 1)), (0, .ref 542), (1, .int k), (2, .int s)], [.int (a + Int32.ofInt 1), .ref 542, .int (a + Int32.ofInt 1), .ref 571], h', n, 0, 0)) (by with_unfolding_all rfl) ?_
              have ea : (a + Int32.ofInt 1).toInt = ((j + 1 : Nat) : Int) := by rw [e32]; omega
              refine mc_callP hmi (en := (127, .invokevirtual 257, 3, (3, 208, 11, 0), [1494, 100, 1492])) rfl (q := (mt_X11_first, [.ref 542, .int (a + Int32.ofInt 1)], [.int (a + Int32.ofInt 1), .ref 571])) (mc_inv i1 (as := [.int (a + Int32.ofInt 1)]) (rest := [.int (a + Int32.ofInt 1), .ref 571]) rfl (by with_unfolding_all rfl) rfl rfl rfl) ⟨rfl, rfl⟩ (pc' := 130) rfl (mc_first (by omega) i1 (a + Int32.ofInt 1) ea) (fun y33 e34 => ?_)
              have hv : y33.toInt = if fo h (j + 1) then 0 else ab_ri h 554 ((j + 1 : Nat) : Int) := by rw [e34, FRF_fo i2, show ab_ri h' 554 ((j + 1 : Nat) : Int) = ab_ri h 554 ((j + 1 : Nat) : Int) from ab_ri_of (i2 554 _ (by decide) (by decide) (by decide) (by decide) (fun q => absurd q (by decide)))]
              have hv0 : 0 ≤ y33.toInt ∧ y33.toInt ≤ 13 := by
                rw [hv]
                cases ho : fo h (j + 1) with
                | true => rw [if_pos rfl]; omega
                | false =>
                  unfold fo at ho
                  rw [Bool.or_eq_false_iff] at ho
                  have o1 := of_decide_eq_false ho.1
                  have o2 := of_decide_eq_false ho.2
                  have o3 := mc_rng H (k := 554) (i := ((j + 1 : Nat) : Int)) rfl rfl (by omega) (by omega)
                  rw [if_neg (show ¬ (false = true) by decide)]
                  omega
              have b35 := Int32.le_toInt (y33)
              have b36 := Int32.toInt_lt (y33)
              refine mc_iast hmi i1 (k := 571) (i := ((j + 1 : Nat) : Int)) (pc' := 131) rfl rfl rfl ea (by omega) (by omega) (by rw [show (y33).toInt = y33.toInt from rfl]; omega) (by rw [show (y33).toInt = y33.toInt from rfl]; omega) rfl (fun h37 H38 w39 => ?_)
              refine mc_cx hmi 1 (F' := (13, [(3, .int (a + Int32.ofInt 1)), (0, .ref 542), (1, .int k), (2, .int s)], [], h37, n, 0, 0)) (by with_unfolding_all rfl) ?_
              refine mc_lvs (lv' := [(0, .ref 542), (1, .int k), (2, .int s), (3, .int (a + Int32.ofInt 1))]) (by simp) ?_
              obtain ⟨I2, M2⟩ := FD I (by omega) h13 H38 w39 hv hv0.1 hv0.2 hM (by omega)
              exact ih h37 (a + Int32.ofInt 1) (j + 1) ea (by omega) I2 M2
            · have eN : N = j + 1 := by omega
              have hK := e21.2 (e21.1.elim (fun q => absurd q q22) (fun q => q)) (hu eN.symm)
              rw [e30] at hK
              have hW1 : Wc (fo h) N (N - (j + 1)) = 1 := by rw [show N - (j + 1) = 0 by omega]; rfl
              have hH : NN (fo h) (dgs h') N j = Hn (fo h) (dgs h') N := by unfold NN; rw [hW1, Nat.mul_one, ← eN]
              have h4 : Pf (fo h) N = 38416 → NN (fo h) (dgs h') N j < 196 ∨ 2744 ≤ NN (fo h) (dgs h') N j := by
                intro hT
                rw [hH]
                refine four hT (fun i hi => ?_) (fun p q p1 p2 p3 => ?_)
                · have := hall (i : Int) (by omega) (by omega); unfold dgs; omega
                · have q1 := hall (p : Int) (by omega) (by omega)
                  have q2 := hK (p : Int) (q : Int) (by omega) (by omega) (by omega) (by omega) (by unfold dgs at p3; omega)
                  unfold dgs; rw [q2]; rfl
              have hps := psi_s h4
              have hpm := psi_mono (T := Pf (fo h) N) (show NN (fo h) (dgs h') N j + 1 ≤ Pf (fo h) N by omega)
              refine mc_cx hmi 2 (F' := (100, [(0, .ref 542), (1, .int k), (2, .int s), (3, .int a)], [.int s, .ref 542], h', n, 0, 0)) (by with_unfolding_all rfl) ?_
              refine mc_call hmi (en := (100, .invokevirtual 263, 3, (3, 210, 11, 0), [1506, 103, 1504])) rfl (q := (mt_X11_take, [.ref 542, .int s], [])) (mc_inv i1 (as := [.int s]) (rest := []) rfl (by with_unfolding_all rfl) rfl rfl rfl) ⟨rfl, rfl⟩ (pc' := 103) rfl (mc_mono (mc_take (by omega) i1 s (by omega) (by omega) (fun z z0 z1 => (hall z z0 (by omega)).2) (by omega) (by omega) i6) ?_)
              intro r1 h1 n1 P1
              obtain ⟨e1, e2, t1, t2, t3, t4, t5⟩ := P1
              rw [e1, e2]
              show mc_R _ _ _ _ _ (103, [(0, .ref 542), (1, .int k), (2, .int s), (3, .int a)], [], h1, n, 0, 0)
              have f1 : FRF h h1 := fun k' i' p1 p2 p3 p4 p5 => (t5 k' i' p1 p2 p3 p5).trans (i2 k' i' p1 p2 p3 p4 p5)
              have g1 : ∀ z : Int, ab_ri h1 571 z = ab_ri h' 571 z := fun z => ab_ri_of (t5 571 z (by decide) (by decide) (by decide) (fun q => absurd q (by decide)))
              refine mc_cx hmi 1 (F' := (104, [(0, .ref 542), (1, .int k), (2, .int s), (3, .int a)], [.ref 542], h1, n, 0, 0)) (by with_unfolding_all rfl) ?_
              refine mc_getr hmi t1 (k := 542) (c := 571) (pc' := 107) rfl rfl rfl rfl rfl ?_
              refine mc_cx hmi 3 (F' := (110, [(0, .ref 542), (1, .int k), (2, .int s), (3, .int a)], [.int a, .ref 542, .int a, .ref 571], h1, n, 0, 0)) (by with_unfolding_all rfl) ?_
              refine mc_callP hmi (en := (110, .invokevirtual 260, 3, (3, 209, 11, 0), [1502, 102, 1500])) rfl (q := (mt_X11_after, [.ref 542, .int a], [.int a, .ref 571])) (mc_inv t1 (as := [.int a]) (rest := [.int a, .ref 571]) rfl (by with_unfolding_all rfl) rfl rfl rfl) ⟨rfl, rfl⟩ (pc' := 113) rfl (mc_after (by omega) t1 a ha (by omega)) (fun y40 e41 => ?_)
              have hv : y40.toInt = if fo h j then ab_ri h1 571 (j : Int) + 1 else 14 := by rw [e41, FRF_fo f1]
              rw [g1] at hv
              have hv0 : 0 ≤ y40.toInt ∧ y40.toInt ≤ 14 := by rw [hv]; split <;> omega
              have b42 := Int32.le_toInt (y40)
              have b43 := Int32.toInt_lt (y40)
              refine mc_iast hmi t1 (k := 571) (i := (j : Int)) (pc' := 114) rfl rfl rfl ha (by omega) (by omega) (by rw [show (y40).toInt = y40.toInt from rfl]; omega) (by rw [show (y40).toInt = y40.toInt from rfl]; omega) rfl (fun h44 H45 w46 => ?_)
              refine mc_cx hmi 1 (F' := (13, [(0, .ref 542), (1, .int k), (2, .int s), (3, .int a)], [], h44, n, 0, 0)) (by with_unfolding_all rfl) ?_
              refine mc_lvs (lv' := [(0, .ref 542), (1, .int k), (2, .int s), (3, .int a)]) (by simp) ?_
              obtain ⟨I2, M2⟩ := FA hN I hj h13 H45 f1 (fun i _ => g1 _) w46 hv t2 (by omega) (by rw [hW1]; omega) hM
              exact ih h44 a j ha hj I2 M2
          · refine mc_cx hmi 1 (F' := (78, [(0, .ref 542), (1, .int k), (2, .int s), (3, .int a)], [.ref 542], h', n, 0, 0)) (by with_unfolding_all rfl) ?_
            refine mc_getr hmi i1 (k := 542) (c := 571) (pc' := 81) rfl rfl rfl rfl rfl ?_
            refine mc_cx hmi 3 (F' := (84, [(0, .ref 542), (1, .int k), (2, .int s), (3, .int a)], [.int a, .ref 542, .int a, .ref 571], h', n, 0, 0)) (by with_unfolding_all rfl) ?_
            refine mc_callP hmi (en := (84, .invokevirtual 260, 3, (3, 209, 11, 0), [1502, 102, 1500])) rfl (q := (mt_X11_after, [.ref 542, .int a], [.int a, .ref 571])) (mc_inv i1 (as := [.int a]) (rest := [.int a, .ref 571]) rfl (by with_unfolding_all rfl) rfl rfl rfl) ⟨rfl, rfl⟩ (pc' := 87) rfl (mc_after (by omega) i1 a ha (by omega)) (fun y23 e24 => ?_)
            have hv : y23.toInt = if fo h j then ab_ri h' 571 (j : Int) + 1 else 14 := by rw [e24, FRF_fo i2]
            have hv0 : 0 ≤ y23.toInt ∧ y23.toInt ≤ 14 := by rw [hv]; split <;> omega
            have b25 := Int32.le_toInt (y23)
            have b26 := Int32.toInt_lt (y23)
            refine mc_iast hmi i1 (k := 571) (i := (j : Int)) (pc' := 88) rfl rfl rfl ha (by omega) (by omega) (by rw [show (y23).toInt = y23.toInt from rfl]; omega) (by rw [show (y23).toInt = y23.toInt from rfl]; omega) rfl (fun h27 H28 w29 => ?_)
            refine mc_cx hmi 1 (F' := (13, [(0, .ref 542), (1, .int k), (2, .int s), (3, .int a)], [], h27, n, 0, 0)) (by with_unfolding_all rfl) ?_
            refine mc_lvs (lv' := [(0, .ref 542), (1, .int k), (2, .int s), (3, .int a)]) (by simp) ?_
            obtain ⟨I2, M2⟩ := FA hN I hj h13 H28 i2 (fun _ _ => rfl) w29 hv (Int.le_refl _) i6 b0 hM
            exact ih h27 a j ha hj I2 M2
        refine mc_ci hmi (c := .ne) (tg := 70) (pc' := 66) rfl rfl rfl e19 hs (fun (q47 : ((j : Int) + 1) ≠ (N : Int)) => ?_) (fun (q47 : ((j : Int) + 1) = (N : Int)) => ?_)
        · refine mc_cx hmi 1 (F' := (71, [(0, .ref 542), (1, .int k), (2, .int s), (3, .int a)], [.int (Int32.ofInt 0), .int k, .int (a + (Int32.ofInt 1)), .int (Int32.ofInt 0), .ref 571, .ref 542], h', n, 0, 0)) (by with_unfolding_all rfl) ?_
          exact key _ (fun q => absurd q47 (by omega))
        · refine mc_cx hmi 2 (F' := (71, [(0, .ref 542), (1, .int k), (2, .int s), (3, .int a)], [.int (Int32.ofInt 1), .int k, .int (a + (Int32.ofInt 1)), .int (Int32.ofInt 0), .ref 571, .ref 542], h', n, 0, 0)) (by with_unfolding_all rfl) ?_
          exact key _ (fun _ => by decide)
      · have h14 : ab_ri h' 571 (j : Int) = 14 := q6
        refine mc_cx hmi 2 (F' := (32, [(3, .int (a + Int32.ofInt (-1))), (0, .ref 542), (1, .int k), (2, .int s)], [.int (a + Int32.ofInt (-1))], h', n, 0, 0)) (by with_unfolding_all rfl) ?_
        have e7 : (a + Int32.ofInt (-1)).toInt = (j : Int) + (-1) := mc_add ha (by decide) (by omega) (by omega)
        generalize (a + Int32.ofInt (-1)) = z8 at e7 ⊢
        refine mc_cz hmi (c := .lt) (tg := 13) (pc' := 35) rfl rfl rfl e7 (fun (q9 : ((j : Int) + (-1)) < 0) => ?_) (fun (q9 : 0 ≤ ((j : Int) + (-1))) => ?_)
        · have ej : j = 0 := by omega
          refine mc_cx hmi 1 (F' := (14, [(3, .int z8), (0, .ref 542), (1, .int k), (2, .int s)], [.int z8], h', n, 0, 0)) (by with_unfolding_all rfl) ?_
          refine mc_cz hmi (c := .lt) (tg := 134) (pc' := 17) rfl rfl rfl e7 (fun (q10 : ((j : Int) + (-1)) < 0) => ?_) (fun (q10 : 0 ≤ ((j : Int) + (-1))) => ?_)
          · subst ej
            refine mc_ret hmi rfl rfl rfl ⟨rfl, rfl, i1, i2, i5, i6, ?_⟩
            rw [NN_last (by omega) (show dgs h' 0 = 14 by unfold dgs; rw [h14]; rfl)] at i7
            exact i7
          · exact absurd q10 (by omega)
        · obtain ⟨j, rfl⟩ : ∃ j', j = j' + 1 := ⟨j - 1, by omega⟩
          have ea : z8.toInt = (j : Int) := by rw [e7]; omega
          refine mc_cx hmi 1 (F' := (36, [(3, .int z8), (0, .ref 542), (1, .int k), (2, .int s)], [.ref 542], h', n, 0, 0)) (by with_unfolding_all rfl) ?_
          refine mc_getr hmi i1 (k := 542) (c := 571) (pc' := 39) rfl rfl rfl rfl rfl ?_
          refine mc_cx hmi 3 (F' := (42, [(3, .int z8), (0, .ref 542), (1, .int k), (2, .int s)], [.int z8, .ref 542, .int z8, .ref 571], h', n, 0, 0)) (by with_unfolding_all rfl) ?_
          refine mc_callP hmi (en := (42, .invokevirtual 260, 3, (3, 209, 11, 0), [1502, 102, 1500])) rfl (q := (mt_X11_after, [.ref 542, .int z8], [.int z8, .ref 571])) (mc_inv i1 (as := [.int z8]) (rest := [.int z8, .ref 571]) rfl (by with_unfolding_all rfl) rfl rfl rfl) ⟨rfl, rfl⟩ (pc' := 45) rfl (mc_after (by omega) i1 z8 ea (by omega)) (fun y11 e12 => ?_)
          have hv : y11.toInt = if fo h j then ab_ri h' 571 (j : Int) + 1 else 14 := by rw [e12, FRF_fo i2]
          have hv0 : 0 ≤ y11.toInt ∧ y11.toInt ≤ 14 := by have := i3 j (by omega); rw [hv]; split <;> omega
          have b13 := Int32.le_toInt (y11)
          have b14 := Int32.toInt_lt (y11)
          refine mc_iast hmi i1 (k := 571) (i := (j : Int)) (pc' := 46) rfl rfl rfl ea (by omega) (by omega) (by rw [show (y11).toInt = y11.toInt from rfl]; omega) (by rw [show (y11).toInt = y11.toInt from rfl]; omega) rfl (fun h15 H16 w17 => ?_)
          refine mc_cx hmi 1 (F' := (13, [(3, .int z8), (0, .ref 542), (1, .int k), (2, .int s)], [], h15, n, 0, 0)) (by with_unfolding_all rfl) ?_
          refine mc_lvs (lv' := [(0, .ref 542), (1, .int k), (2, .int s), (3, .int z8)]) (by simp) ?_
          obtain ⟨I2, M2⟩ := FP I hj h14 H16 w17 hv hM (by omega)
          exact ih h15 z8 j ea (by omega) I2 M2
set_option maxRecDepth 100000 in
theorem mc_fillTo {l : Launch} {G : ax_T} {d : Nat} {h : ax_H} {n : Nat} (hd : 4 ≤ d) (H : mc_HW h n) (k s : Int32) (hk0 : 0 ≤ k.toInt) (hk1 : k.toInt ≤ 5) {N : Nat} (hs : s.toInt = (N : Int)) (hN : N ≤ 21) (hN1 : 1 ≤ N) (hS0 : 0 ≤ ab_ri h 542 37) (hnz : (nz (ab_ri h 569) 131072 : Int) ≤ ab_ri h 542 37) (hB : ab_ri h 542 37 + (psi (Pf (fo h) N) (Pf (fo h) N) : Int) ≤ 40000) : mc_M l G d mt_X11_fillTo [.ref 542, .int k, .int s] h n (QF h n N) := by
  obtain ⟨d, rfl⟩ : ∃ e, d = e + 1 := ⟨d - 1, by omega⟩
  have hmi : mt_X11_fillTo ∈ mt_prog := List.mem_of_getElem? mi_X11_fillTo
  have hp : 0 ≤ ab_ri h 542 14 ∧ ab_ri h 542 14 ≤ 20 := mc_frng H (k := 542) (j := 14) (ci := 11) rfl rfl
  refine mc_to hmi rfl ?_
  show mc_R _ _ _ _ _ (0, [(0, .ref 542), (1, .int k), (2, .int s)], [], h, n, 0, 0)
  refine mc_cx hmi 3 (F' := (3, [(3, .int (Int32.ofInt 0)), (0, .ref 542), (1, .int k), (2, .int s)], [.ref 542], h, n, 0, 0)) (by with_unfolding_all rfl) ?_
  refine mc_getr hmi H (k := 542) (c := 571) (pc' := 6) rfl rfl rfl rfl rfl ?_
  refine mc_cx hmi 3 (F' := (9, [(3, .int (Int32.ofInt 0)), (0, .ref 542), (1, .int k), (2, .int s)], [.int (Int32.ofInt 0), .ref 542, .int (Int32.ofInt 0), .ref 571], h, n, 0, 0)) (by with_unfolding_all rfl) ?_
  refine mc_callP hmi (en := (9, .invokevirtual 257, 3, (3, 208, 11, 0), [1494, 100, 1492])) rfl (q := (mt_X11_first, [.ref 542, .int (Int32.ofInt 0)], [.int (Int32.ofInt 0), .ref 571])) (mc_inv H (as := [.int (Int32.ofInt 0)]) (rest := [.int (Int32.ofInt 0), .ref 571]) rfl (by with_unfolding_all rfl) rfl rfl rfl) ⟨rfl, rfl⟩ (pc' := 12) rfl (mc_first (by omega) H (Int32.ofInt 0) (j := 0) (by decide)) (fun y48 e49 => ?_)
  have hv0 : 0 ≤ y48.toInt ∧ y48.toInt ≤ 13 := by
    rw [e49]
    cases ho : fo h 0 with
    | true => rw [if_pos rfl]; omega
    | false =>
      unfold fo at ho
      rw [Bool.or_eq_false_iff] at ho
      have o1 := of_decide_eq_false ho.1
      have o2 := of_decide_eq_false ho.2
      have o3 := mc_rng H (k := 554) (i := ((0 : Nat) : Int)) rfl rfl (by omega) (by omega)
      rw [if_neg (show ¬ (false = true) by decide)]
      omega
  have hv : fo h 0 = true → y48.toInt = 0 := fun ho => by rw [e49, ho]; rfl
  have b50 := Int32.le_toInt (y48)
  have b51 := Int32.toInt_lt (y48)
  refine mc_iast hmi H (k := 571) (i := 0) (pc' := 13) rfl rfl rfl (by decide) (by omega) (by omega) (by rw [show (y48).toInt = y48.toInt from rfl]; omega) (by rw [show (y48).toInt = y48.toInt from rfl]; omega) rfl (fun h52 H53 w54 => ?_)
  refine mc_lvs (lv' := [(0, .ref 542), (1, .int k), (2, .int s), (3, .int (Int32.ofInt 0))]) (by simp) ?_
  obtain ⟨k1, k2, k3, k4, k5⟩ := FW (j := 0) (fun _ _ _ _ _ _ _ => rfl) w54
  have hNN : NN (fo h) (dgs h52) N 0 = 0 := by
    unfold NN
    rw [Hn_s]
    have e0 : dgs h52 0 = y48.toInt.toNat := by unfold dgs; rw [k3]
    rw [e0]
    cases ho : fo h 0 with
    | true => rw [if_pos rfl, hv ho]; exact Nat.zero_mul _
    | false => rw [if_neg (show ¬ (false = true) by decide), if_neg (by omega)]; exact Nat.zero_mul _
  exact ft_loop (by omega) H k s hk0 hk1 hs hN hS0 hB _ h52 (Int32.ofInt 0) 0 (by decide) (by omega) ⟨H53, k1, fun i hi => absurd hi (Nat.not_lt_zero i), by rw [k3]; omega, by omega, by rw [k5, k4]; exact hnz, by rw [k4]; omega⟩ (Nat.le_refl _)
end
section
/-! ===== by hand: fillAll, in the reference (ways printed by wip/hand/h_fillall.py) ===== -/
set_option maxRecDepth 100000 in
theorem nz_0 {f : Int → Int} : ∀ m : Nat, (∀ i : Nat, i < m → f (i : Int) = 0) → nz f m = 0
  | 0, _ => rfl
  | m + 1, e => by
    unfold nz
    rw [nz_0 m (fun i hi => e i (by omega)), if_pos (e m (by omega))]
set_option maxRecDepth 100000 in
theorem Pf_gc (h : ax_H) : ∀ j : Nat, (j : Int) ≤ ab_ri h 542 14 → Pf (fo h) j = 14 ^ (ab_gc h 554 j)
  | 0, _ => rfl
  | j + 1, hj => by
    have ih := Pf_gc h j (by omega)
    show Pf (fo h) j * (if fo h j then 14 else 1) = 14 ^ (ab_gc h 554 j + (if ab_ri h 554 (j : Int) = 14 then 1 else 0))
    have e1 : fo h j = decide (ab_ri h 554 (j : Int) = 14) := by
      unfold fo
      rw [decide_eq_false (show ¬ ab_ri h 542 14 ≤ (j : Int) by omega), Bool.false_or]
    rw [ih, e1]
    by_cases q : ab_ri h 554 (j : Int) = 14
    · rw [decide_eq_true q, if_pos rfl, if_pos q, Nat.pow_succ]
    · rw [decide_eq_false q, if_neg (show ¬ (false = true) by decide), if_neg q, Nat.mul_one, Nat.add_zero]
set_option maxRecDepth 100000 in
theorem pow3 {g : Nat} (h : g ≤ 3) : 14 ^ g = 1 ∨ 14 ^ g = 14 ∨ 14 ^ g = 196 ∨ 14 ^ g = 2744 := by
  have : g = 0 ∨ g = 1 ∨ g = 2 ∨ g = 3 := by omega
  rcases this with rfl | rfl | rfl | rfl
  · exact Or.inl rfl
  · exact Or.inr (Or.inl rfl)
  · exact Or.inr (Or.inr (Or.inl rfl))
  · exact Or.inr (Or.inr (Or.inr rfl))
set_option maxRecDepth 100000 in
theorem fa_1 {l : Launch} {G : ax_T} {d : Nat} {Q : Option Value → ax_H → Nat → Prop} {h : ax_H} {n : Nat} (k : Int32) (kk : ∀ h' : ax_H, mc_HW h' n → (∀ (k' : Nat) (i' : Int), k' ≠ 569 → ab_rd h' k' i' = ab_rd h k' i') → (∀ t : Nat, t < 131072 → ab_ri h' 569 (t : Int) = 0) → mc_R l G mt_X11_fillAll d Q (26, [(0, .ref 542), (1, .int k)], [], h', n, 0, 0)) : ∀ (c j : Nat) (h' : ax_H) (i : Int32), j + c = 131072 → i.toInt = (j : Int) → mc_HW h' n → (∀ (k' : Nat) (i' : Int), k' ≠ 569 → ab_rd h' k' i' = ab_rd h k' i') → (∀ t : Nat, t < j → ab_ri h' 569 (t : Int) = 0) → mc_R l G mt_X11_fillAll d Q (7, [(0, .ref 542), (1, .int k), (2, .int i)], [], h', n, 0, 0) := by
  have hmi : mt_X11_fillAll ∈ mt_prog := List.mem_of_getElem? mi_X11_fillAll
  intro c
  induction c with
  | zero =>
    intro j h' i hj hi H' hfr hz
    refine mc_cx hmi 2 (F' := (10, [(0, .ref 542), (1, .int k), (2, .int i)], [.int (Int32.ofInt 131072), .int i], h', n, 0, 0)) (by with_unfolding_all rfl) ?_
    refine mc_ci hmi (c := .ge) (tg := 26) (pc' := 13) rfl rfl rfl hi (by decide) (fun (q1 : 131072 ≤ (j : Int)) => ?_) (fun (q1 : (j : Int) < 131072) => ?_)
    · refine mc_lvs (lv' := [(0, .ref 542), (1, .int k)]) (by simp) ?_
      have e : j = 131072 := by omega
      rw [e] at hz
      exact kk h' H' hfr hz
    · exact absurd q1 (by omega)
  | succ c ih =>
    intro j h' i hj hi H' hfr hz
    refine mc_cx hmi 2 (F' := (10, [(0, .ref 542), (1, .int k), (2, .int i)], [.int (Int32.ofInt 131072), .int i], h', n, 0, 0)) (by with_unfolding_all rfl) ?_
    refine mc_ci hmi (c := .ge) (tg := 26) (pc' := 13) rfl rfl rfl hi (by decide) (fun (q2 : 131072 ≤ (j : Int)) => ?_) (fun (q2 : (j : Int) < 131072) => ?_)
    · exact absurd q2 (by omega)
    · refine mc_cx hmi 1 (F' := (14, [(0, .ref 542), (1, .int k), (2, .int i)], [.ref 542], h', n, 0, 0)) (by with_unfolding_all rfl) ?_
      refine mc_getr hmi H' (k := 542) (c := 569) (pc' := 17) rfl rfl rfl rfl rfl ?_
      refine mc_cx hmi 2 (F' := (19, [(0, .ref 542), (1, .int k), (2, .int i)], [.int (Int32.ofInt 0), .int i, .ref 569], h', n, 0, 0)) (by with_unfolding_all rfl) ?_
      refine mc_iast hmi H' (k := 569) (i := (j : Int)) (pc' := 20) rfl rfl rfl hi (by omega) (by omega) (by rw [show ((Int32.ofInt 0)).toInt = 0 from by decide]; omega) (by rw [show ((Int32.ofInt 0)).toInt = 0 from by decide]; omega) rfl (fun h3 H4 w5 => ?_)
      refine mc_cx hmi 2 (F' := (7, [(2, .int (i + Int32.ofInt 1)), (0, .ref 542), (1, .int k)], [], h3, n, 0, 0)) (by with_unfolding_all rfl) ?_
      have e6 : (i + Int32.ofInt 1).toInt = (j : Int) + 1 := mc_add hi (by decide) (by omega) (by omega)
      refine mc_lvs (lv' := [(0, .ref 542), (1, .int k), (2, .int (i + Int32.ofInt 1))]) (by simp) ?_
      refine ih (j + 1) h3 (i + Int32.ofInt 1) (by omega) (by rw [e6]; omega) H4 (fun k' i' hk => by rw [w5, if_neg (fun q => hk q.1)]; exact hfr k' i' hk) (fun t ht => ?_)
      rw [mc_ri w5]
      by_cases e : t = j
      · rw [if_pos ⟨rfl, by rw [e]⟩]; decide
      · rw [if_neg (fun q => by have := q.2; omega)]; exact hz t (by omega)
set_option maxRecDepth 100000 in
theorem fa_2 {l : Launch} {G : ax_T} {d : Nat} {Q : Option Value → ax_H → Nat → Prop} {h : ax_H} {n : Nat} (k : Int32) (kk : ∀ h' : ax_H, mc_HW h' n → (∀ (k' : Nat) (i' : Int), k' ≠ 570 → ab_rd h' k' i' = ab_rd h k' i') → (∀ t : Nat, t < 20 → ab_ri h' 570 (t : Int) = -1) → mc_R l G mt_X11_fillAll d Q (47, [(0, .ref 542), (1, .int k)], [], h', n, 0, 0)) : ∀ (c j : Nat) (h' : ax_H) (i : Int32), j + c = 20 → i.toInt = (j : Int) → mc_HW h' n → (∀ (k' : Nat) (i' : Int), k' ≠ 570 → ab_rd h' k' i' = ab_rd h k' i') → (∀ t : Nat, t < j → ab_ri h' 570 (t : Int) = -1) → mc_R l G mt_X11_fillAll d Q (28, [(0, .ref 542), (1, .int k), (2, .int i)], [], h', n, 0, 0) := by
  have hmi : mt_X11_fillAll ∈ mt_prog := List.mem_of_getElem? mi_X11_fillAll
  intro c
  induction c with
  | zero =>
    intro j h' i hj hi H' hfr hz
    refine mc_cx hmi 2 (F' := (31, [(0, .ref 542), (1, .int k), (2, .int i)], [.int (Int8.ofInt 20).toInt32, .int i], h', n, 0, 0)) (by with_unfolding_all rfl) ?_
    refine mc_ci hmi (c := .ge) (tg := 47) (pc' := 34) rfl rfl rfl hi (by decide) (fun (q7 : 20 ≤ (j : Int)) => ?_) (fun (q7 : (j : Int) < 20) => ?_)
    · refine mc_lvs (lv' := [(0, .ref 542), (1, .int k)]) (by simp) ?_
      have e : j = 20 := by omega
      rw [e] at hz
      exact kk h' H' hfr hz
    · exact absurd q7 (by omega)
  | succ c ih =>
    intro j h' i hj hi H' hfr hz
    refine mc_cx hmi 2 (F' := (31, [(0, .ref 542), (1, .int k), (2, .int i)], [.int (Int8.ofInt 20).toInt32, .int i], h', n, 0, 0)) (by with_unfolding_all rfl) ?_
    refine mc_ci hmi (c := .ge) (tg := 47) (pc' := 34) rfl rfl rfl hi (by decide) (fun (q8 : 20 ≤ (j : Int)) => ?_) (fun (q8 : (j : Int) < 20) => ?_)
    · exact absurd q8 (by omega)
    · refine mc_cx hmi 1 (F' := (35, [(0, .ref 542), (1, .int k), (2, .int i)], [.ref 542], h', n, 0, 0)) (by with_unfolding_all rfl) ?_
      refine mc_getr hmi H' (k := 542) (c := 570) (pc' := 38) rfl rfl rfl rfl rfl ?_
      refine mc_cx hmi 2 (F' := (40, [(0, .ref 542), (1, .int k), (2, .int i)], [.int (Int32.ofInt (-1)), .int i, .ref 570], h', n, 0, 0)) (by with_unfolding_all rfl) ?_
      refine mc_iast hmi H' (k := 570) (i := (j : Int)) (pc' := 41) rfl rfl rfl hi (by omega) (by omega) (by rw [show ((Int32.ofInt (-1))).toInt = (-1) from by decide]; omega) (by rw [show ((Int32.ofInt (-1))).toInt = (-1) from by decide]; omega) rfl (fun h9 H10 w11 => ?_)
      refine mc_cx hmi 2 (F' := (28, [(2, .int (i + Int32.ofInt 1)), (0, .ref 542), (1, .int k)], [], h9, n, 0, 0)) (by with_unfolding_all rfl) ?_
      have e12 : (i + Int32.ofInt 1).toInt = (j : Int) + 1 := mc_add hi (by decide) (by omega) (by omega)
      refine mc_lvs (lv' := [(0, .ref 542), (1, .int k), (2, .int (i + Int32.ofInt 1))]) (by simp) ?_
      refine ih (j + 1) h9 (i + Int32.ofInt 1) (by omega) (by rw [e12]; omega) H10 (fun k' i' hk => by rw [w11, if_neg (fun q => hk q.1)]; exact hfr k' i' hk) (fun t ht => ?_)
      rw [mc_ri w11]
      by_cases e : t = j
      · rw [if_pos ⟨rfl, by rw [e]⟩]; decide
      · rw [if_neg (fun q => by have := q.2; omega)]; exact hz t (by omega)
set_option maxRecDepth 100000 in
theorem mc_fillAll {l : Launch} {G : ax_T} {d : Nat} {h : ax_H} {n : Nat} (hd : 4 ≤ d) (H : mc_HW h n) (k : Int32) (hk0 : 0 ≤ k.toInt) (hk1 : k.toInt ≤ 5) (hp1 : 1 ≤ ab_ri h 542 14) (hg : ab_gc h 554 (ab_ri h 542 14).toNat ≤ 3) : mc_R l G mt_X11_fillAll d (fun r' h' n' => n' = n ∧ r' = none ∧ mc_HW h' n ∧ FRF h h') (0, [(0, .ref 542), (1, .int k)], [], h, n, 0, 0) := by
  have hmi : mt_X11_fillAll ∈ mt_prog := List.mem_of_getElem? mi_X11_fillAll
  have hp : 0 ≤ ab_ri h 542 14 ∧ ab_ri h 542 14 ≤ 20 := mc_frng H (k := 542) (j := 14) (ci := 11) rfl rfl
  obtain ⟨pl, hpl⟩ : ∃ pl : Nat, ab_ri h 542 14 = (pl : Int) := ⟨(ab_ri h 542 14).toNat, by omega⟩
  have hT1 : Pf (fo h) pl = 14 ^ (ab_gc h 554 pl) := Pf_gc h pl (by omega)
  rw [show (ab_ri h 542 14).toNat = pl by omega] at hg
  have hp3 := pow3 hg
  rw [← hT1] at hp3
  have hT2 : Pf (fo h) (pl + 1) = Pf (fo h) pl * 14 := by
    show Pf (fo h) pl * (if fo h pl then 14 else 1) = _
    rw [show fo h pl = true from by unfold fo; rw [decide_eq_true (by omega)]; rfl, if_pos rfl]
  have hps1 : psi (Pf (fo h) pl) (Pf (fo h) pl) ≤ 2744 := by unfold psi; split <;> omega
  have hps2 : psi (Pf (fo h) (pl + 1)) (Pf (fo h) (pl + 1)) ≤ 35868 := by unfold psi; rw [hT2]; split <;> (try split) <;> (try split) <;> omega
  refine mc_cx hmi 2 (F' := (2, [(0, .ref 542), (1, .int k)], [.int (Int32.ofInt 0), .ref 542], h, n, 0, 0)) (by with_unfolding_all rfl) ?_
  refine mc_puti hmi H (k := 542) (j := 37) (pc' := 5) rfl rfl rfl rfl (by rw [show ((Int32.ofInt 0)).toInt = 0 from by decide]; omega) (by rw [show ((Int32.ofInt 0)).toInt = 0 from by decide]; omega) rfl (fun h13 H14 w15 => ?_)
  have g0 := mc_ri w15
  have f0 : FRF h h13 := fun k' i' p1 p2 p3 p4 p5 => by rw [w15, if_neg (fun q => p5 q.1 q.2)]
  refine mc_cx hmi 2 (F' := (7, [(2, .int (Int32.ofInt 0)), (0, .ref 542), (1, .int k)], [], h13, n, 0, 0)) (by with_unfolding_all rfl) ?_
  refine mc_lvs (lv' := [(0, .ref 542), (1, .int k), (2, .int (Int32.ofInt 0))]) (by simp) ?_
  refine fa_1 (h := h13) k (fun h1 H1 f1 z1 => ?_) 131072 0 h13 _ (Nat.zero_add _) rfl H14 (fun _ _ _ => rfl) (fun t ht => absurd ht (Nat.not_lt_zero t))
  refine mc_cx hmi 2 (F' := (28, [(2, .int (Int32.ofInt 0)), (0, .ref 542), (1, .int k)], [], h1, n, 0, 0)) (by with_unfolding_all rfl) ?_
  refine mc_lvs (lv' := [(0, .ref 542), (1, .int k), (2, .int (Int32.ofInt 0))]) (by simp) ?_
  refine fa_2 (h := h1) k (fun h2 H2 f2 z2 => ?_) 20 0 h1 _ (Nat.zero_add _) rfl H1 (fun _ _ _ => rfl) (fun t ht => absurd ht (Nat.not_lt_zero t))
  have fA : FRF h h2 := fun k' i' p1 p2 p3 p4 p5 => (f2 k' i' p3).trans ((f1 k' i' p2).trans (f0 k' i' p1 p2 p3 p4 p5))
  have eS : ab_ri h2 542 37 = 0 := by rw [ab_ri_of (f2 542 37 (by decide)), ab_ri_of (f1 542 37 (by decide)), g0, if_pos ⟨rfl, rfl⟩]; rfl
  have eZ : nz (ab_ri h2 569) 131072 = 0 := nz_0 _ (fun t ht => by rw [ab_ri_of (f2 569 (t : Int) (by decide))]; exact z1 t ht)
  have eF : fo h2 = fo h := funext (FRF_fo fA)
  have eP : ab_ri h2 542 14 = (pl : Int) := by rw [ab_ri_of (fA 542 14 (by decide) (by decide) (by decide) (by decide) (by decide))]; exact hpl
  refine mc_cx hmi 3 (F' := (50, [(0, .ref 542), (1, .int k)], [.ref 542, .int k, .ref 542], h2, n, 0, 0)) (by with_unfolding_all rfl) ?_
  refine mc_geti hmi H2 (k := 542) (j := 14) (pc' := 53) rfl rfl rfl rfl (fun y16 (e17 : y16.toInt = ab_ri h2 542 14) r18 r19 => ?_)
  rw [e17] at r18 r19
  have ey : y16.toInt = (pl : Int) := by rw [e17]; exact eP
  refine mc_call hmi (en := (53, .invokevirtual 254, 3, (3, 206, 11, 0), [1490, 99, 1488])) rfl (q := (mt_X11_fillTo, [.ref 542, .int k, .int y16], [])) (mc_inv H2 (as := [.int k, .int y16]) (rest := []) rfl (by with_unfolding_all rfl) rfl rfl rfl) ⟨rfl, rfl⟩ (pc' := 56) rfl (mc_mono (mc_fillTo (by omega) H2 k y16 hk0 hk1 (N := pl) ey (by omega) (by omega) (by omega) (by rw [eZ]; omega) (by rw [eF]; omega)) ?_)
  intro r3 h3 n3 P3
  obtain ⟨e1, e2, H3, f3, s3, z3, b3⟩ := P3
  rw [e1, e2]
  show mc_R _ _ _ _ _ (56, [(0, .ref 542), (1, .int k)], [], h3, n, 0, 0)
  rw [eF, eS] at b3
  have fB : FRF h h3 := fA.trans f3
  refine mc_cx hmi 1 (F' := (57, [(0, .ref 542), (1, .int k)], [.ref 542], h3, n, 0, 0)) (by with_unfolding_all rfl) ?_
  refine mc_geti hmi H3 (k := 542) (j := 15) (pc' := 60) rfl rfl rfl rfl (fun y20 (e21 : y20.toInt = ab_ri h3 542 15) r22 r23 => ?_)
  rw [e21] at r22 r23
  refine mc_cz hmi (c := .eq) (tg := 74) (pc' := 63) rfl rfl rfl e21 (fun (q24 : ab_ri h3 542 15 = 0) => ?_) (fun (q24 : ab_ri h3 542 15 ≠ 0) => ?_)
  · exact mc_ret hmi rfl rfl rfl ⟨rfl, rfl, H3, fB⟩
  · have eF3 : fo h3 = fo h := funext (FRF_fo fB)
    have eP3 : ab_ri h3 542 14 = (pl : Int) := by rw [ab_ri_of (fB 542 14 (by decide) (by decide) (by decide) (by decide) (by decide))]; exact hpl
    refine mc_cx hmi 3 (F' := (66, [(0, .ref 542), (1, .int k)], [.ref 542, .int k, .ref 542], h3, n, 0, 0)) (by with_unfolding_all rfl) ?_
    refine mc_geti hmi H3 (k := 542) (j := 14) (pc' := 69) rfl rfl rfl rfl (fun y25 (e26 : y25.toInt = ab_ri h3 542 14) r27 r28 => ?_)
    rw [e26] at r27 r28
    refine mc_cx hmi 2 (F' := (71, [(0, .ref 542), (1, .int k)], [.int (y25 + (Int32.ofInt 1)), .int k, .ref 542], h3, n, 0, 0)) (by with_unfolding_all rfl) ?_
    have e29 : (y25 + (Int32.ofInt 1)).toInt = ab_ri h3 542 14 + 1 := mc_add e26 (by decide) (by omega) (by omega)
    have ex : (y25 + (Int32.ofInt 1)).toInt = ((pl + 1 : Nat) : Int) := by rw [e29, eP3]; rfl
    refine mc_call hmi (en := (71, .invokevirtual 254, 3, (3, 206, 11, 0), [1490, 99, 1488])) rfl (q := (mt_X11_fillTo, [.ref 542, .int k, .int (y25 + (Int32.ofInt 1))], [])) (mc_inv H3 (as := [.int k, .int (y25 + (Int32.ofInt 1))]) (rest := []) rfl (by with_unfolding_all rfl) rfl rfl rfl) ⟨rfl, rfl⟩ (pc' := 74) rfl (mc_mono (mc_fillTo (by omega) H3 k (y25 + (Int32.ofInt 1)) hk0 hk1 (N := pl + 1) ex (by omega) (by omega) (by omega) z3 (by rw [eF3]; omega)) ?_)
    intro r4 h4 n4 P4
    obtain ⟨e3, e4, H4, f4, s4, z4, b4⟩ := P4
    rw [e3, e4]
    show mc_R _ _ _ _ _ (74, [(0, .ref 542), (1, .int k)], [], h4, n, 0, 0)
    exact mc_ret hmi rfl rfl rfl ⟨rfl, rfl, H4, fB.trans f4⟩
set_option maxRecDepth 100000 in
theorem mc_toL {l : Launch} {G : ax_T} {mi : ax_MI} {d : Nat} {Q : Option Value → ax_H → Nat → Prop} {h : ax_H} {n : Nat} (hmi : mi ∈ mt_prog) {as : List Value} (hlen : (lg_sl as).length ≤ mi.2.2.2.1) {lv' : List (Nat × Value)} (hs : ∀ q ∈ lv', ax_look (lv_args 0 as) q.1 = some q.2) (hR : mc_R l G mi d Q (0, lv', [], h, n, 0, 0)) : mc_M l G (d + 1) mi as h n Q := by
  refine mc_to hmi (by simpa [Nat.ble_eq] using hlen) (mc_lvs (fun q hq => ?_) hR)
  have h1 := hs q hq
  unfold ax_look at h1
  obtain ⟨z, hz, e⟩ := Option.map_eq_some_iff.mp h1
  have h2 : z.1 = q.1 := by simpa using List.find?_some hz
  have : z = q := Prod.ext h2 e
  rw [← this]
  exact List.mem_of_find?_eq_some hz
set_option maxRecDepth 100000 in
theorem mc_mdE {M κ : Nat} {i : Int} {md : List (Nat × Int)} (hm : (M, (-2 : Int)) ∈ md) (hb : Nat.testBit M κ = true) (hi : 0 ≤ i) : ab_md md κ i = true := by
  refine List.any_eq_true.mpr ⟨_, hm, ?_⟩
  simp only [hb, decide_eq_true hi, Bool.true_and, decide_true, Bool.or_true]
-- lengths are what the kinds say
def mc_ex (k : Nat) : Bool := Nat.blt k 573 && (match ab_K[ab_k k]? with
  | some (.inl (_, N1, N2, _, _)) => Nat.beq N1 N2
  | some (.inr _) => true
  | none => false)
set_option maxRecDepth 100000 in
theorem mc_negrd {h h' : ax_H} {n n' k : Nat} {i : Int} (H : mc_HW h n) (H' : mc_HW h' n') (hk : mc_ex k = true) (hi : i < 0) : ab_rd h' k i = ab_rd h k i := by
  unfold mc_ex at hk
  rw [Bool.and_eq_true, Nat.blt_eq] at hk
  obtain ⟨hk1, hk⟩ := hk
  obtain ⟨x, S, a1, a2, a3⟩ := H.2.1 k (Nat.lt_of_lt_of_le hk1 H.1)
  obtain ⟨x', S', b1, b2, b3⟩ := H'.2.1 k (Nat.lt_of_lt_of_le hk1 H'.1)
  rw [a2] at b2
  cases b2
  rw [a2] at hk
  unfold ab_rd
  rw [a1, b1]
  rcases S with ⟨t, N1, N2, τ, σ⟩ | ⟨c, τs⟩
  · have hN : N1 = N2 := by simpa [Nat.beq_eq] using hk
    rcases x with ⟨t1, N, f | f⟩ | ⟨c1, fs⟩
    · rcases x' with ⟨t2, N', g | g⟩ | ⟨c2, gs⟩
      · have e1 := a3.2.2.1; have e2 := a3.2.2.2.1; have e3 := b3.2.2.1; have e4 := b3.2.2.2.1
        have : N = N' := by omega
        subst this
        simp only [decide_eq_true hi, cond_true]
      · exact absurd b3.2.1 (by have := a3.2.1; omega)
      · exact b3.elim
    · rcases x' with ⟨t2, N', g | g⟩ | ⟨c2, gs⟩
      · exact absurd b3.2.1 (by have := a3.2.1; omega)
      · have e1 := a3.2.2.2.1; have e2 := a3.2.2.2.2.1; have e3 := b3.2.2.2.1; have e4 := b3.2.2.2.2.1
        have : N = N' := by omega
        subst this
        simp only [decide_eq_true hi, cond_true]
      · exact b3.elim
    · exact a3.elim
  · rcases x with ⟨t1, N, f | f⟩ | ⟨c1, fs⟩
    · exact a3.elim
    · exact a3.elim
    · rcases x' with ⟨t2, N', g | g⟩ | ⟨c2, gs⟩
      · exact b3.elim
      · exact b3.elim
      · simp only [decide_eq_true hi, cond_true]
-- what the bounds speak of
set_option maxRecDepth 100000 in
theorem mc_J2 {h h' : ax_H} {n : Nat} (H : mc_HW h n) (e : ∀ (k : Nat) (i : Int), k = 28 ∨ k = 29 ∨ k = 554 ∨ (k = 542 ∧ i = 14) ∨ ab_k k = 34 → ab_rd h' k i = ab_rd h k i) (J : ab_J h) : ab_J h' := by
  obtain ⟨⟨j1, j2, j3⟩, j4, j5⟩ := J
  have r : ∀ (k : Nat) (i : Int), k = 28 ∨ k = 29 ∨ k = 554 ∨ (k = 542 ∧ i = 14) ∨ ab_k k = 34 → ab_ri h' k i = ab_ri h k i := fun k i q => ab_ri_of (e k i q)
  refine ⟨⟨?_, ?_, ?_⟩, ?_, fun w hw => ?_⟩
  · rw [r 28 1 (Or.inl rfl), ab_gc_of _ (fun i _ => e 29 i (Or.inr (Or.inl rfl)))]; exact j1
  · rw [r 28 1 (Or.inl rfl), r 28 2 (Or.inl rfl)]; exact j2
  · rw [r 28 1 (Or.inl rfl), r 28 2 (Or.inl rfl)]; exact j3
  · rw [r 542 14 (Or.inr (Or.inr (Or.inr (Or.inl ⟨rfl, rfl⟩)))), ab_gc_of _ (fun i _ => e 554 i (Or.inr (Or.inr (Or.inl rfl))))]; exact j4
  · rw [e 28 4 (Or.inl rfl)] at hw
    have := j5 w hw
    have hkw : ab_k w = 34 := by
      obtain ⟨fs, v, -, -, ⟨k', rfl, -, k2⟩, k3⟩ := mc_fld (k := 28) (j := 4) (ci := 7) (τ := .inr (some 17179869184)) H rfl rfl
      have : (some (Value.ref k') : Option Value) = some (.ref w) := k3.symm.trans hw
      cases this
      have := (Nat.testBit_two_pow (n := 34) (m := ab_k w)).symm.trans (show Nat.testBit (2 ^ 34) (ab_k w) = true from k2)
      have := of_decide_eq_true this
      omega
    rw [r 28 6 (Or.inl rfl), r 28 7 (Or.inl rfl), r w (-1) (Or.inr (Or.inr (Or.inr (Or.inr hkw))))]
    exact this
set_option maxRecDepth 100000 in
theorem fillAll_ok {l : Launch} {G : ax_T} : ab_QOk l G mt_prog cq_4 := by
  intro mi hmi d hd V as h n hlen hg
  have hm : mi = mt_X11_fillAll := Option.some.inj (hmi.symm.trans mi_X11_fillAll)
  subst hm
  have hin : mt_X11_fillAll ∈ mt_prog := List.mem_of_getElem? mi_X11_fillAll
  have hd' : 10 ≤ d := hd
  obtain ⟨d, rfl⟩ : ∃ d', d = d' + 1 := ⟨d - 1, by omega⟩
  obtain ⟨g1, -, g3, -, g5, -, -, g8, g9⟩ := hg
  have hH := g8.1
  obtain ⟨v0, q0, ⟨k, rfl, k1, k2, -⟩⟩ := g3.2 0 _ rfl
  obtain ⟨v1, q1, ⟨p, rfl, p1, p2, -⟩⟩ := g3.2 1 _ rfl
  obtain ⟨x0, a0, b0⟩ := g1 0 _ rfl
  obtain ⟨x1, a1, b1⟩ := g1 1 _ rfl
  have hpl : ab_rd h 542 14 = some (.int p) := by
    rcases g5 _ List.mem_cons_self with ⟨k', x, w, c1, c2, c3, c4⟩ | ⟨x, y, z, c1, -⟩
    · cases c1
      cases c2
      have : w = .int p := Option.some.inj (c3.symm.trans q1)
      subst this
      exact c4
    · cases c1
  have hpi : ab_ri h 542 14 = p.toInt := by unfold ab_ri; rw [hpl]
  cases b0
  have e1 : x1 = .int k := Option.some.inj (b1.symm.trans q0)
  subst e1
  have hW := mc_HW_of hH
  obtain ⟨o, m1, m2, m3, m4, m5⟩ := mc_toL (l := l) (G := G) hin hlen (lv' := [(0, .ref 542), (1, .int k)]) (List.forall_mem_cons.mpr ⟨a0, List.forall_mem_cons.mpr ⟨a1, fun q hq => nomatch hq⟩⟩) (mc_fillAll (l := l) (G := G) (d := d) (by omega) hW k k1 k2 (by rw [hpi]; exact p1) hH.2.2.1.2.1)
  have hJ : ab_J o.2.1 := mc_J2 hW (fun k i q => by
    by_cases hk : k = 568 ∨ k = 569 ∨ k = 570 ∨ k = 571
    · rcases hk with rfl | rfl | rfl | rfl <;> rcases q with q | q | q | q | q <;> first | (exact absurd q (by decide)) | (exact absurd q.1 (by decide))
    · refine m5 k i (fun z => hk (Or.inl z)) (fun z => hk (Or.inr (Or.inl z))) (fun z => hk (Or.inr (Or.inr (Or.inl z)))) (fun z => hk (Or.inr (Or.inr (Or.inr z)))) (fun z => ?_)
      subst z
      rcases q with q | q | q | q | q
      · exact absurd q (by decide)
      · exact absurd q (by decide)
      · exact absurd q (by decide)
      · rw [q.2]; decide
      · exact absurd q (by decide)) hH.2.2.1
  refine ⟨o, m1, _, List.mem_singleton.mpr rfl, V, 0, 0, fun k a hk => (by cases hk), ?_, ?_, fun q hq => (nomatch hq), fun q hq => (nomatch hq), fun q hq => (nomatch hq), ⟨rfl, rfl⟩, ⟨?_, fun k hk i hi => ?_, ?_⟩, g9⟩
  · rw [m3]; trivial
  · rw [m2]; exact g3
  · rw [m2]; exact mc_HT_of m4 hJ
  · by_cases hn : i < 0 ∧ (k = 568 ∨ k = 569 ∨ k = 570 ∨ k = 571)
    · refine mc_negrd hW m4 ?_ hn.1
      rcases hn.2 with rfl | rfl | rfl | rfl <;> rfl
    · have hmem : ((4533471823554859405148160, (-2 : Int)) : Nat × Int) ∈ cq_4.2.2.2.1 := List.mem_cons_self
      refine m5 k i (fun z => ?_) (fun z => ?_) (fun z => ?_) (fun z => ?_) (fun z z2 => ?_)
      · subst z
        have := mc_mdE hmem (κ := ab_k 568) (by decide +kernel) (i := i) (by omega)
        rw [this] at hi; cases hi
      · subst z
        have := mc_mdE hmem (κ := ab_k 569) (by decide +kernel) (i := i) (by omega)
        rw [this] at hi; cases hi
      · subst z
        have := mc_mdE hmem (κ := ab_k 570) (by decide +kernel) (i := i) (by omega)
        rw [this] at hi; cases hi
      · subst z
        have := mc_mdE hmem (κ := ab_k 571) (by decide +kernel) (i := i) (by omega)
        rw [this] at hi; cases hi
      · subst z z2
        have : ab_md cq_4.2.2.2.1 (ab_k 542) 37 = true := by decide +kernel
        rw [this] at hi; cases hi
  · rw [m2]; exact Nat.le_refl _
end
