/-! ===== by hand: all contracts by hand, given signOf ===== -/
theorem as1 {as : List Value} {x : Value} (hl : (lg_sl as).length ≤ 1) (ha : ax_look (lv_args 0 as) 0 = some x) : as = [x] := by
  rw [ab_sl_sum] at hl
  match as, hl, ha with
  | [], _, ha => cases ha
  | [v], _, ha =>
    have : some v = some x := ha
    cases this
    rfl
  | v :: w :: rest, hl, _ =>
    exfalso
    have h1 : 1 ≤ v.category := by cases v <;> exact Nat.le_of_ble_eq_true rfl
    have h2 : 1 ≤ w.category := by cases w <;> exact Nat.le_of_ble_eq_true rfl
    have h3 : ax_sum (v :: w :: rest) = v.category + (w.category + ax_sum rest) := rfl
    omega
theorem sg_q0 {l : Launch} {G : ax_T} (HS : SGN l G) : ab_QOk l G mt_prog cq_0 := by
  intro mi hmi d hd V as h n hlen hg
  have hm : mi = mt_X10_signOf := Option.some.inj (hmi.symm.trans mi_X10_signOf)
  subst hm
  have hd' : 10 ≤ d := hd
  obtain ⟨g1, -, g3, -, -, -, -, g8, g9⟩ := hg
  obtain ⟨v0, q0, ⟨x, rfl, x1, x2, x3⟩⟩ := g3.2 0 _ rfl
  obtain ⟨v1, a0, b0⟩ := g1 0 _ rfl
  have e1 : v1 = .int x := Option.some.inj (b0.symm.trans q0)
  subst e1
  have has := as1 hlen a0
  subst has
  obtain ⟨o, m1, m2, m3, y, m4, m5⟩ := HS d h n x (by omega) (Or.inr trivial) (mc_HW_of g8.1) (by omega) (by omega)
  have hy : 0 ≤ y.toInt ∧ y.toInt ≤ 13 := by
    rcases m5 with q | q
    · exact q.2
    · exact absurd x3 q.1
  have hV : V = [.int x] := by
    match V, g3.1, q0 with
    | [v], _, q0 => cases q0; rfl
  refine ⟨o, m1, _, List.mem_singleton.mpr rfl, [.int x, .int y], 0, 0, fun k a hk => (by cases hk), ?_, ⟨rfl, fun u τ hu => ?_⟩, fun q hq => (nomatch hq), fun q hq => (nomatch hq), fun q hq => (nomatch hq), ⟨rfl, rfl⟩, ⟨?_, fun k _ i _ => ?_, ?_⟩, fun u v hu => ?_⟩
  · rw [m4]; exact ⟨rfl, trivial⟩
  · match u, hu with
    | 0, hu => cases hu; exact ⟨_, rfl, x, rfl, x1, x2, x3⟩
    | 1, hu => cases hu; exact ⟨_, rfl, y, rfl, hy.1, hy.2, trivial⟩
    | u + 2, hu => simp at hu
  · rw [m2, m3]; exact g8.1
  · rw [m2]
  · rw [m3]; exact Nat.le_refl _
  · rw [hV] at hu
    match u, hu with
    | 0, hu => exact hu
    | u + 1, hu => simp at hu
theorem sg_q1 {l : Launch} {G : ax_T} (HS : SGN l G) : ab_QOk l G mt_prog cq_1 := by
  intro mi hmi d hd V as h n hlen hg
  have hm : mi = mt_X10_signOf := Option.some.inj (hmi.symm.trans mi_X10_signOf)
  subst hm
  have hd' : 10 ≤ d := hd
  obtain ⟨g1, -, g3, -, -, -, -, g8, g9⟩ := hg
  obtain ⟨v0, q0, ⟨x, rfl, x1, x2, x3⟩⟩ := g3.2 0 _ rfl
  obtain ⟨v1, a0, b0⟩ := g1 0 _ rfl
  have e1 : v1 = .int x := Option.some.inj (b0.symm.trans q0)
  subst e1
  have has := as1 hlen a0
  subst has
  obtain ⟨o, m1, m2, m3, y, m4, m5⟩ := HS d h n x (by omega) (Or.inr trivial) (mc_HW_of g8.1) x1 x2
  have hV : V = [.int x] := by
    match V, g3.1, q0 with
    | [v], _, q0 => cases q0; rfl
  rcases m5 with ⟨q1, q2, q3⟩ | ⟨q1, q2⟩
  · have hb : 67 ≤ x.toInt ∧ x.toInt ≤ 120 := by
      have : ∀ z ∈ ab_let, (67 : Int) ≤ z ∧ z ≤ 120 := by decide
      exact this _ q1
    refine ⟨o, m1, ([], [av_s 1], [.inl (67, 120, 3), .inl (0, 13, 0)], [], [], [], 0, 0), List.mem_cons_self, [.int x, .int y], 0, 0, fun k a hk => (by cases hk), ?_, ⟨rfl, fun u τ hu => ?_⟩, fun q hq => (nomatch hq), fun q hq => (nomatch hq), fun q hq => (nomatch hq), ⟨rfl, rfl⟩, ⟨?_, fun k _ i _ => ?_, ?_⟩, fun u v hu => ?_⟩
    · rw [m4]; exact ⟨rfl, trivial⟩
    · match u, hu with
      | 0, hu => cases hu; exact ⟨_, rfl, x, rfl, hb.1, hb.2, q1⟩
      | 1, hu => cases hu; exact ⟨_, rfl, y, rfl, q2, q3, trivial⟩
      | u + 2, hu => simp at hu
    · rw [m2, m3]; exact g8.1
    · rw [m2]
    · rw [m3]; exact Nat.le_refl _
    · rw [hV] at hu
      match u, hu with
      | 0, hu => exact hu
      | u + 1, hu => simp at hu
  · refine ⟨o, m1, ([], [av_c (-1)], [.inl (0, 255, 0)], [], [], [], 0, 0), List.mem_cons_of_mem _ List.mem_cons_self, [.int x], 0, 0, fun k a hk => (by cases hk), ?_, ⟨rfl, fun u τ hu => ?_⟩, fun q hq => (nomatch hq), fun q hq => (nomatch hq), fun q hq => (nomatch hq), ⟨rfl, rfl⟩, ⟨?_, fun k _ i _ => ?_, ?_⟩, fun u v hu => ?_⟩
    · rw [m4]
      have : y = Int32.ofInt (-1) := Int32.toInt_inj.mp (by rw [q2]; decide)
      subst this
      exact ⟨rfl, trivial⟩
    · match u, hu with
      | 0, hu => cases hu; exact ⟨_, rfl, x, rfl, x1, x2, trivial⟩
      | u + 1, hu => simp at hu
    · rw [m2, m3]; exact g8.1
    · rw [m2]
    · rw [m3]; exact Nat.le_refl _
    · rw [hV] at hu; exact hu
theorem hand_ok {l : Launch} {G : ax_T} (HS : SGN l G) : ab_Hand l G := by
  intro c Q hc hQ
  match c, hc, hQ with
  | 0, _, hQ => cases hQ; exact sg_q0 HS
  | 1, _, hQ => cases hQ; exact sg_q1 HS
  | 2, _, hQ => cases hQ; exact mr_ok
  | 3, _, hQ => cases hQ; exact seek_ok
  | 4, _, hQ => cases hQ; exact fillAll_ok
/-- calls whose ends are still owed -/
def mh_10s : List (Nat × Int) := [(2 ^ 33, -2), (2 ^ 30, 1), (2 ^ 30, 2), (2 ^ 30, 8), (2 ^ 1, 1)]
def mh_11s : List (Nat × Int) := [(2 ^ 64, -2), (2 ^ 52, 2), (2 ^ 52, 14), (2 ^ 52, 15)]
def mh_11p : List (Nat × Int) := [(2 ^ 61, -2), (2 ^ 62, -2)]
def mh_11l : List (Nat × Int) := [(2 ^ 59, -2), (2 ^ 60, -2)]
def ab_Hand2 (l : Launch) (G : ax_T) : Prop := ∀ (h : ax_H) (n : Nat), ab_HT h n → pb_S l G mt_X10_stone [.ref 0] h n mh_10s ∧ pb_S l G mt_X11_stone [.ref 542] h n mh_11s ∧ (∀ (a z : Int32), (z = 0 ∨ z = 1) → pb_S l G mt_X11_pour [.ref 542, .int a, .int z] h n mh_11p) ∧ ∀ a : Int32, pb_S l G mt_X11_lift [.ref 542, .int a] h n mh_11l
theorem mh_all {M : List (Nat × Int)} {κ : Nat} {i : Int} (hm : (M.any fun q => Nat.testBit q.1 κ && decide (q.2 = -2)) = true) (hi : 0 ≤ i) : ¬ ab_md M κ i = false := by
  intro e
  obtain ⟨q, hq, h1⟩ := List.any_eq_true.mp hm
  simp only [Bool.and_eq_true, decide_eq_true_eq] at h1
  have h2 : ab_md M κ i = true := by
    unfold ab_md
    refine List.any_eq_true.mpr ⟨q, hq, ?_⟩
    rw [h1.1, decide_eq_true h1.2, decide_eq_true hi]
    simp
  rw [h2] at e
  cases e
/-- from what a method does to what is told of a public call -/
theorem pb_of {l : Launch} {G : ax_T} {mi : ax_MI} {as : List Value} {h : ax_H} {n : Nat} {M : List (Nat × Int)} {Q : Option Value → ax_H → Nat → Prop} (hM : mc_M l G 40 mi as h n Q) (hQ : ∀ r h' n', Q r h' n' → (∃ y : Int32, r = some (.int y)) ∧ ab_HT h' n' ∧ pb_f M n h h') : pb_S l G mi as h n M := by
  obtain ⟨⟨r, h', n'⟩, m1, m2⟩ := hM
  obtain ⟨⟨y, q1⟩, q2, q3⟩ := hQ _ _ _ m2
  have q1' : r = some (.int y) := q1
  subst q1'
  exact ⟨y, h', n', m1, q2, q3⟩
theorem hand2_ok {l : Launch} {G : ax_T} (HS : SGN l G) : ab_Hand2 l G := by
  intro h n H
  have hW := mc_HW_of H
  refine ⟨?_, ?_, fun a z hz => ?_, fun a => ?_⟩
  · refine pb_of (mc_stone10 HS (by decide) hW) (fun r h' n' q => ?_)
    obtain ⟨e, H', hy, f, g⟩ := q
    subst e
    refine ⟨hy, mc_HT_of H' ?_, (fun k _ i hi hm => f k i (fun e => by subst e; exact mh_all (κ := ab_k 29) (by decide +kernel) hi hm) (fun e1 e2 => by subst e1; subst e2; exact absurd hm (by decide +kernel)) (fun e1 e2 => by subst e1; subst e2; exact absurd hm (by decide +kernel)) (fun e1 e2 => by subst e1; subst e2; exact absurd hm (by decide +kernel)) (fun e1 e2 => by subst e1; subst e2; exact absurd hm (by decide +kernel)))⟩
    obtain ⟨j1, j2, j3⟩ := H.2.2.1
    refine ⟨g j1, ?_, fun w hw => ?_⟩
    · rw [ab_ri_of (f 542 14 (by decide) (by decide) (by decide) (by decide) (by decide)), ab_gc_of _ (fun i _ => f 554 i (by decide) (fun q => absurd q (by decide)) (fun q => absurd q (by decide)) (fun q => absurd q (by decide)) (fun q => absurd q (by decide)))]
      exact j2
    · rw [f 28 4 (by decide) (by decide) (by decide) (by decide) (by decide)] at hw
      have hkw : ab_k w = 34 := by
        obtain ⟨fs, v, -, -, ⟨k', rfl, -, k2⟩, k3⟩ := mc_fld (k := 28) (j := 4) (ci := 7) (τ := .inr (some 17179869184)) hW rfl rfl
        have : (some (Value.ref k') : Option Value) = some (.ref w) := k3.symm.trans hw
        cases this
        have := (Nat.testBit_two_pow (n := 34) (m := ab_k w)).symm.trans (show Nat.testBit (2 ^ 34) (ab_k w) = true from k2)
        have := of_decide_eq_true this
        omega
      have hw29 : w ≠ 29 := fun e => by subst e; exact absurd hkw (by decide)
      have hw28 : w ≠ 28 := fun e => by subst e; exact absurd hkw (by decide)
      have hw1 : w ≠ 1 := fun e => by subst e; exact absurd hkw (by decide)
      rw [ab_ri_of (f 28 6 (by decide) (by decide) (by decide) (by decide) (by decide)), ab_ri_of (f 28 7 (by decide) (by decide) (by decide) (by decide) (by decide)), ab_ri_of (f w (-1) hw29 (fun e => absurd e hw28) (fun e => absurd e hw28) (fun e => absurd e hw28) (fun e => absurd e hw1))]
      exact j3 w hw
  · refine pb_of (mc_stone (by decide) hW) (fun r h' n' q => ?_)
    obtain ⟨e, H', hy, f, g⟩ := q
    subst e
    refine ⟨hy, mc_HT_of H' ?_, (fun k _ i hi hm => f k i (fun e => by subst e; exact mh_all (κ := ab_k 554) (by decide +kernel) hi hm) (fun e1 e2 => by subst e1; subst e2; exact absurd hm (by decide +kernel)) (fun e1 e2 => by subst e1; subst e2; exact absurd hm (by decide +kernel)) (fun e1 e2 => by subst e1; subst e2; exact absurd hm (by decide +kernel)))⟩
    obtain ⟨⟨j1, j2, j3⟩, j4, j5⟩ := H.2.2.1
    have r : ∀ (k : Nat) (i : Int), k ≠ 554 → k ≠ 542 → ab_rd h' k i = ab_rd h k i := fun k i a b => f k i a (fun e => absurd e b) (fun e => absurd e b) (fun e => absurd e b)
    refine ⟨⟨?_, ?_, ?_⟩, g j4, fun w hw => ?_⟩
    · rw [ab_ri_of (r 28 1 (by decide) (by decide)), ab_gc_of _ (fun i _ => r 29 i (by decide) (by decide))]; exact j1
    · rw [ab_ri_of (r 28 1 (by decide) (by decide)), ab_ri_of (r 28 2 (by decide) (by decide))]; exact j2
    · rw [ab_ri_of (r 28 1 (by decide) (by decide)), ab_ri_of (r 28 2 (by decide) (by decide))]; exact j3
    · rw [r 28 4 (by decide) (by decide)] at hw
      have hkw : ab_k w = 34 := by
        obtain ⟨fs, v, -, -, ⟨k', rfl, -, k2⟩, k3⟩ := mc_fld (k := 28) (j := 4) (ci := 7) (τ := .inr (some 17179869184)) hW rfl rfl
        have : (some (Value.ref k') : Option Value) = some (.ref w) := k3.symm.trans hw
        cases this
        have := (Nat.testBit_two_pow (n := 34) (m := ab_k w)).symm.trans (show Nat.testBit (2 ^ 34) (ab_k w) = true from k2)
        have := of_decide_eq_true this
        omega
      have hw1 : w ≠ 554 := fun e => by subst e; exact absurd hkw (by decide)
      have hw2 : w ≠ 542 := fun e => by subst e; exact absurd hkw (by decide)
      rw [ab_ri_of (r 28 6 (by decide) (by decide)), ab_ri_of (r 28 7 (by decide) (by decide)), ab_ri_of (r w (-1) hw1 hw2)]
      exact j5 w hw
  · refine pb_of (mc_pour (by decide) hW a z hz) (fun r h' n' q => ?_)
    obtain ⟨e, H', hy, f⟩ := q
    subst e
    refine ⟨hy, mc_HT_of H' (mc_J2 hW (fun k i q => f k i (fun e => ?_) (fun e => ?_)) H.2.2.1), (fun k _ i hi hm => f k i (fun e => by subst e; exact mh_all (κ := ab_k 551) (by decide +kernel) hi hm) (fun e => by subst e; exact mh_all (κ := ab_k 552) (by decide +kernel) hi hm))⟩
    · subst e; rcases q with q | q | q | q | q <;> first | (exact absurd q (by decide)) | (exact absurd q.1 (by decide))
    · subst e; rcases q with q | q | q | q | q <;> first | (exact absurd q (by decide)) | (exact absurd q.1 (by decide))
  · refine pb_of (mc_lift (by decide) hW a) (fun r h' n' q => ?_)
    obtain ⟨e, H', hy, f⟩ := q
    subst e
    refine ⟨hy, mc_HT_of H' (mc_J2 hW (fun k i q => f k i (fun e => ?_) (fun e => ?_)) H.2.2.1), (fun k _ i hi hm => f k i (fun e => by subst e; exact mh_all (κ := ab_k 549) (by decide +kernel) hi hm) (fun e => by subst e; exact mh_all (κ := ab_k 550) (by decide +kernel) hi hm))⟩
    · subst e; rcases q with q | q | q | q | q <;> first | (exact absurd q (by decide)) | (exact absurd q.1 (by decide))
    · subst e; rcases q with q | q | q | q | q <;> first | (exact absurd q (by decide)) | (exact absurd q.1 (by decide))
