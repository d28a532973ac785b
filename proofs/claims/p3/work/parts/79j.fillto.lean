/-! ===== by hand: fillTo and fillAll, in the reference (ways printed by wip/hand/h_fillto.py) ===== -/
set_option maxRecDepth 100000 in
theorem Hn_up {o : Nat → Bool} {dg : Nat → Nat} {s : Nat} : ∀ j : Nat, j ≤ s → (∀ i, i < j → dg i ≤ 13) → (Hn o dg j + 1) * Wc o s (s - j) ≤ Pf o s
  | 0, _, _ => by
    rw [Nat.sub_zero, Wc_all]
    show (0 + 1) * _ ≤ _
    omega
  | j + 1, h, hd => by
    refine Nat.le_trans ?_ (Hn_up j (by omega) (fun i hi => hd i (by omega)))
    rw [Wc_s (show j < s by omega)]
    have := hd j (by omega)
    rw [Hn_s]
    cases ho : o j with
    | true =>
      rw [if_pos rfl, if_pos rfl, ← Nat.mul_assoc]
      exact Nat.mul_le_mul_right _ (by omega)
    | false =>
      rw [if_neg (show ¬ (false = true) by decide), if_neg (show ¬ (dg j = 14) by omega), if_neg (show ¬ (false = true) by decide), Nat.one_mul]
      exact Nat.le_refl _
def NN (o : Nat → Bool) (dg : Nat → Nat) (s j : Nat) : Nat := Hn o dg (j + 1) * Wc o s (s - (j + 1))
set_option maxRecDepth 100000 in
theorem NN_push {o : Nat → Bool} {dg dg' : Nat → Nat} {s j : Nat} (hj : j + 1 < s) (he : ∀ i, i ≤ j → dg' i = dg i) (hn : (o (j + 1) = true → dg' (j + 1) = 0) ∧ dg' (j + 1) ≤ 13) : NN o dg' s (j + 1) = NN o dg s j := by
  have e1 : Hn o dg' (j + 1) = Hn o dg (j + 1) := Hn_of (j + 1) (fun i hi => he i (by omega))
  unfold NN
  rw [Wc_s hj]
  show (if o (j + 1) then Hn o dg' (j + 1) * 14 + dg' (j + 1) else Hn o dg' (j + 1) + (if dg' (j + 1) = 14 then 1 else 0)) * _ = _
  rw [e1]
  cases ho : o (j + 1) with
  | true => rw [if_pos rfl, if_pos rfl, hn.1 ho, Nat.add_zero, Nat.mul_assoc]
  | false => rw [if_neg (show ¬ (false = true) by decide), if_neg (show ¬ (dg' (j + 1) = 14) by omega), if_neg (show ¬ (false = true) by decide), Nat.one_mul, Nat.add_zero]
set_option maxRecDepth 100000 in
theorem NN_adv {o : Nat → Bool} {dg dg' : Nat → Nat} {s j : Nat} (he : ∀ i, i < j → dg' i = dg i) (hd : dg j ≤ 13) (hn : dg' j = if o j then dg j + 1 else 14) : NN o dg' s j = NN o dg s j + Wc o s (s - (j + 1)) := by
  have e1 : Hn o dg' j = Hn o dg j := Hn_of j he
  unfold NN
  show (if o j then Hn o dg' j * 14 + dg' j else Hn o dg' j + (if dg' j = 14 then 1 else 0)) * _ = (if o j then Hn o dg j * 14 + dg j else Hn o dg j + (if dg j = 14 then 1 else 0)) * _ + _
  rw [e1]
  cases ho : o j with
  | true =>
    rw [ho, if_pos rfl] at hn
    rw [if_pos rfl, if_pos rfl, hn, ← Nat.add_assoc, Nat.succ_mul]
  | false =>
    rw [ho, if_neg (by decide)] at hn
    rw [if_neg (show ¬ (false = true) by decide), hn, if_pos rfl, if_neg (show ¬ (false = true) by decide), if_neg (show ¬ (dg j = 14) by omega), Nat.add_zero, Nat.succ_mul]
    rfl
set_option maxRecDepth 100000 in
theorem NN_pop {o : Nat → Bool} {dg dg' : Nat → Nat} {s j : Nat} (hj : j + 1 < s) (he : ∀ i, i < j → dg' i = dg i) (hd : dg j ≤ 13) (h14 : dg (j + 1) = 14) (hn : dg' j = if o j then dg j + 1 else 14) : NN o dg' s j = NN o dg s (j + 1) := by
  rw [NN_adv he hd hn]
  unfold NN
  rw [Wc_s hj]
  show _ = (if o (j + 1) then Hn o dg (j + 1) * 14 + dg (j + 1) else Hn o dg (j + 1) + (if dg (j + 1) = 14 then 1 else 0)) * _
  rw [h14]
  cases ho : o (j + 1) with
  | true =>
    rw [if_pos rfl, if_pos rfl, show Hn o dg (j + 1) * 14 + 14 = (Hn o dg (j + 1) + 1) * 14 by omega, Nat.mul_assoc]
    exact (Nat.succ_mul _ _).symm
  | false =>
    rw [if_neg (show ¬ (false = true) by decide), if_neg (show ¬ (false = true) by decide), if_pos rfl, Nat.one_mul]
    exact (Nat.succ_mul _ _).symm
set_option maxRecDepth 100000 in
theorem NN_last {o : Nat → Bool} {dg : Nat → Nat} {s : Nat} (hs : 0 < s) (h14 : dg 0 = 14) : NN o dg s 0 = Pf o s := by
  rw [← Wc_all]
  have := Wc_s (o := o) (show 0 < s by omega)
  rw [Nat.sub_zero] at this
  rw [this]
  unfold NN
  show (if o 0 then 0 * 14 + dg 0 else 0 + (if dg 0 = 14 then 1 else 0)) * _ = _
  rw [h14]
  split
  · rfl
  · rw [if_pos rfl]
set_option maxRecDepth 100000 in
theorem NN_lt {o : Nat → Bool} {dg : Nat → Nat} {s j : Nat} (hj : j < s) (hd : ∀ i, i ≤ j → dg i ≤ 13) : NN o dg s j + Wc o s (s - (j + 1)) ≤ Pf o s := by
  have := Hn_up (o := o) (dg := dg) (s := s) (j + 1) (by omega) (fun i hi => hd i (by omega))
  rw [Nat.succ_mul] at this
  exact this
def dgs (h : ax_H) (i : Nat) : Nat := (ab_ri h 571 (i : Int)).toNat
-- what fillTo leaves alone
def FRF (h h' : ax_H) : Prop := ∀ (k : Nat) (i : Int), k ≠ 568 → k ≠ 569 → k ≠ 570 → k ≠ 571 → (k = 542 → i ≠ 37) → ab_rd h' k i = ab_rd h k i
set_option maxRecDepth 100000 in
theorem FRF_fo {h h' : ax_H} (f : FRF h h') (j : Nat) : fo h' j = fo h j := by
  have e1 : ab_ri h' 542 14 = ab_ri h 542 14 := ab_ri_of (f 542 14 (by decide) (by decide) (by decide) (by decide) (by decide))
  have e2 : ab_ri h' 554 (j : Int) = ab_ri h 554 (j : Int) := ab_ri_of (f 554 _ (by decide) (by decide) (by decide) (by decide) (fun q => absurd q (by decide)))
  unfold fo
  rw [e1, e2]
set_option maxRecDepth 100000 in
theorem FRF.trans {h h1 h2 : ax_H} (a : FRF h h1) (b : FRF h1 h2) : FRF h h2 := fun k i p1 p2 p3 p4 p5 => (b k i p1 p2 p3 p4 p5).trans (a k i p1 p2 p3 p4 p5)
-- where the filling stands
def FIv (h h' : ax_H) (n s j : Nat) : Prop := mc_HW h' n ∧ FRF h h' ∧ (∀ i : Nat, i < j → 0 ≤ ab_ri h' 571 (i : Int) ∧ ab_ri h' 571 (i : Int) ≤ 13) ∧ (0 ≤ ab_ri h' 571 (j : Int) ∧ ab_ri h' 571 (j : Int) ≤ 14) ∧
  ab_ri h 542 37 ≤ ab_ri h' 542 37 ∧ (nz (ab_ri h' 569) 131072 : Int) ≤ ab_ri h' 542 37 ∧ ab_ri h' 542 37 ≤ ab_ri h 542 37 + (psi (Pf (fo h) s) (NN (fo h) (dgs h') s j) : Int)
def FM (h h' : ax_H) (s j : Nat) : Nat := (Pf (fo h) s - NN (fo h) (dgs h') s j) * 64 + (if ab_ri h' 571 (j : Int) = 14 then 22 + j else 21 - j)
def QF (h : ax_H) (n s : Nat) : Option Value → ax_H → Nat → Prop := fun r' h' n' => n' = n ∧ r' = none ∧ mc_HW h' n ∧ FRF h h' ∧ ab_ri h 542 37 ≤ ab_ri h' 542 37 ∧ (nz (ab_ri h' 569) 131072 : Int) ≤ ab_ri h' 542 37 ∧ ab_ri h' 542 37 ≤ ab_ri h 542 37 + (psi (Pf (fo h) s) (Pf (fo h) s) : Int)
-- a digit is written
set_option maxRecDepth 100000 in
theorem FW {h h1 h2 : ax_H} {j : Nat} {v : Int32} (f : FRF h h1) (w : ∀ (k' : Nat) (i' : Int), ab_rd h2 k' i' = if k' = 571 ∧ i' = (j : Int) then some (.int v) else ab_rd h1 k' i') : FRF h h2 ∧ (∀ i : Nat, i ≠ j → ab_ri h2 571 (i : Int) = ab_ri h1 571 (i : Int)) ∧ ab_ri h2 571 (j : Int) = v.toInt ∧ ab_ri h2 542 37 = ab_ri h1 542 37 ∧ nz (ab_ri h2 569) 131072 = nz (ab_ri h1 569) 131072 := by
  have g := mc_ri w
  refine ⟨fun k i p1 p2 p3 p4 p5 => ?_, fun i hi => ?_, ?_, ?_, ?_⟩
  · rw [w, if_neg (fun q => p4 q.1)]; exact f k i p1 p2 p3 p4 p5
  · rw [g, if_neg (fun q => by have := q.2; omega)]
  · rw [g, if_pos ⟨rfl, rfl⟩]
  · rw [g, if_neg (fun q => absurd q.1 (by decide))]
  · exact nz_of _ (fun i _ => by rw [g, if_neg (fun q => absurd q.1 (by decide))])
-- one more at a place: the digit was not used up
set_option maxRecDepth 100000 in
theorem FA {h h0 h1 h2 : ax_H} {n s j c : Nat} {v : Int32} (hs21 : s ≤ 21) (I : FIv h h0 n s j) (hj : j < s) (h13 : ab_ri h0 571 (j : Int) ≤ 13) (H2 : mc_HW h2 n) (f1 : FRF h h1) (e1 : ∀ i : Nat, i ≤ j → ab_ri h1 571 (i : Int) = ab_ri h0 571 (i : Int))
    (w : ∀ (k' : Nat) (i' : Int), ab_rd h2 k' i' = if k' = 571 ∧ i' = (j : Int) then some (.int v) else ab_rd h1 k' i') (hv : v.toInt = if fo h j then ab_ri h0 571 (j : Int) + 1 else 14) (s1 : ab_ri h0 542 37 ≤ ab_ri h1 542 37) (z1 : (nz (ab_ri h1 569) 131072 : Int) ≤ ab_ri h1 542 37)
    (b1 : ab_ri h1 542 37 ≤ ab_ri h 542 37 + (psi (Pf (fo h) s) (NN (fo h) (dgs h0) s j + Wc (fo h) s (s - (j + 1))) : Int)) (hM : FM h h0 s j ≤ c + 1) : FIv h h2 n s j ∧ FM h h2 s j ≤ c := by
  obtain ⟨i1, i2, i3, i4, i5, i6, i7⟩ := I
  obtain ⟨k1, k2, k3, k4, k5⟩ := FW f1 w
  have hN : NN (fo h) (dgs h2) s j = NN (fo h) (dgs h0) s j + Wc (fo h) s (s - (j + 1)) := by
    refine NN_adv (fun i hi => ?_) ?_ ?_
    · unfold dgs; rw [k2 i (by omega), e1 i (by omega)]
    · unfold dgs; omega
    · unfold dgs
      rw [k3, hv]
      split <;> omega
  have hlt := NN_lt (o := fo h) (dg := dgs h0) (s := s) hj (fun i hi => by
    unfold dgs
    by_cases e : i = j
    · rw [e]; omega
    · have := i3 i (by omega); omega)
  have hW := Wc_pos (o := fo h) (s := s) (s - (j + 1))
  refine ⟨⟨H2, k1, fun i hi => ?_, ?_, by omega, by rw [k5, k4]; exact z1, by rw [k4, hN]; exact b1⟩, ?_⟩
  · rw [k2 i (by omega), e1 i (by omega)]; exact i3 i hi
  · rw [k3, hv]; split <;> omega
  · unfold FM at hM ⊢
    rw [hN]
    split at hM <;> split <;> omega
set_option maxRecDepth 100000 in
theorem FP {h h0 h2 : ax_H} {n s j c : Nat} {v : Int32} (I : FIv h h0 n s (j + 1)) (hj : j + 1 < s) (h14 : ab_ri h0 571 ((j + 1 : Nat) : Int) = 14) (H2 : mc_HW h2 n)
    (w : ∀ (k' : Nat) (i' : Int), ab_rd h2 k' i' = if k' = 571 ∧ i' = (j : Int) then some (.int v) else ab_rd h0 k' i') (hv : v.toInt = if fo h j then ab_ri h0 571 (j : Int) + 1 else 14) (hM : FM h h0 s (j + 1) ≤ c + 1) (h20 : j + 1 ≤ 20) : FIv h h2 n s j ∧ FM h h2 s j ≤ c := by
  obtain ⟨i1, i2, i3, i4, i5, i6, i7⟩ := I
  obtain ⟨k1, k2, k3, k4, k5⟩ := FW i2 w
  have hdj := i3 j (by omega)
  have hN : NN (fo h) (dgs h2) s j = NN (fo h) (dgs h0) s (j + 1) := by
    refine NN_pop hj (fun i hi => ?_) ?_ ?_ ?_
    · unfold dgs; rw [k2 i (by omega)]
    · unfold dgs; omega
    · unfold dgs; rw [h14]; rfl
    · unfold dgs
      rw [k3, hv]
      split <;> omega
  refine ⟨⟨H2, k1, fun i hi => ?_, ?_, by omega, by rw [k5, k4]; exact i6, by rw [k4, hN]; exact i7⟩, ?_⟩
  · rw [k2 i (by omega)]; exact i3 i (by omega)
  · rw [k3, hv]; split <;> omega
  · unfold FM at hM ⊢
    rw [hN]
    rw [if_pos h14] at hM
    split <;> omega
set_option maxRecDepth 100000 in
theorem FD {h h0 h2 : ax_H} {n s j c : Nat} {v : Int32} (I : FIv h h0 n s j) (hj : j + 1 < s) (h13 : ab_ri h0 571 (j : Int) ≤ 13) (H2 : mc_HW h2 n)
    (w : ∀ (k' : Nat) (i' : Int), ab_rd h2 k' i' = if k' = 571 ∧ i' = ((j + 1 : Nat) : Int) then some (.int v) else ab_rd h0 k' i') (hv : v.toInt = if fo h (j + 1) then 0 else ab_ri h 554 ((j + 1 : Nat) : Int)) (hv0 : 0 ≤ v.toInt) (hv1 : v.toInt ≤ 13) (hM : FM h h0 s j ≤ c + 1) (h20 : j + 1 ≤ 20) : FIv h h2 n s (j + 1) ∧ FM h h2 s (j + 1) ≤ c := by
  obtain ⟨i1, i2, i3, i4, i5, i6, i7⟩ := I
  obtain ⟨k1, k2, k3, k4, k5⟩ := FW i2 w
  have hN : NN (fo h) (dgs h2) s (j + 1) = NN (fo h) (dgs h0) s j := by
    refine NN_push hj (fun i hi => ?_) ⟨fun ho => ?_, ?_⟩
    · unfold dgs; rw [k2 i (by omega)]
    · unfold dgs; rw [k3, hv, ho]; rfl
    · unfold dgs; rw [k3]; omega
  refine ⟨⟨H2, k1, fun i hi => ?_, ?_, by omega, by rw [k5, k4]; exact i6, by rw [k4, hN]; exact i7⟩, ?_⟩
  · rw [k2 i (by omega)]
    by_cases e : i = j
    · rw [e]; exact ⟨i4.1, h13⟩
    · exact i3 i (by omega)
  · rw [k3]; omega
  · unfold FM at hM ⊢
    rw [hN]
    rw [if_neg (by omega)] at hM
    rw [if_neg (by rw [k3]; omega)]
    omega
