section
/-! ===== by hand: small ones of the reference; pour (ways printed by wip/hand/h_pour.py) ===== -/
theorem mc_neg {x : Int32} {a : Int} (hx : x.toInt = a) (h1 : -2147483647 ≤ a) : (-x).toInt = -a := by
  have h2 := x.toInt_lt
  rw [Int32.toInt_neg, hx]
  exact ab_bm (by omega) (by omega)
/-- a pure method's answer -/
def mc_P (h : ax_H) (n : Nat) (P : Int32 → Prop) : Option Value → ax_H → Nat → Prop := fun r h' n' => h' = h ∧ n' = n ∧ ∃ y : Int32, r = some (.int y) ∧ P y
theorem mc_callP {l : Launch} {G : ax_T} {mi : ax_MI} {d : Nat} {Q : Option Value → ax_H → Nat → Prop} {pc pc' : Nat} {lv : List (Nat × Value)} {st : List Value} {h : ax_H} {n : Nat} (hmi : mi ∈ mt_prog) {en : ax_EN} (ha : ax_at mi.2.2.2.2.2.2.2.2 pc = some en) {q : ax_MI × List Value × List Value} (hq : ax_inv mt_prog en.2.1 en.2.2.2.1 st h = some q) (h0 : q.1.2.2.2.2.2.2.1 = 0 ∧ q.1.2.2.2.2.2.2.2.1 = 0) (hp : pc + 3 = pc') {P : Int32 → Prop} (hM : mc_M l G d q.1 q.2.1 h n (mc_P h n P)) (kk : ∀ y : Int32, P y → mc_R l G mi d Q (pc', lv, .int y :: q.2.2, h, n, 0, 0)) : mc_R l G mi d Q (pc, lv, st, h, n, 0, 0) := by
  refine mc_call hmi ha hq h0 hp (mc_mono hM ?_)
  intro r h' n' hP
  obtain ⟨e1, e2, y, e3, e4⟩ := hP
  rw [e1, e2, e3]
  exact kk y e4
theorem mc_bald {l : Launch} {G : ax_T} {mi : ax_MI} {d : Nat} {Q : Option Value → ax_H → Nat → Prop} {pc pc' : Nat} {lv : List (Nat × Value)} {st : List Value} {h : ax_H} {n : Nat} (hmi : mi ∈ mt_prog) (H : mc_HW h n) {k N f : Nat} {lo hi : Int} {σ : List ab_Y} {hs : List Nat} {pe : ax_PE} {x : Int32} {i : Int} (ha : ax_at mi.2.2.2.2.2.2.2.2 pc = some (pc, .baload, 1, pe, hs)) (hk : Nat.blt k 573 = true) (hf : ab_K[ab_k k]? = some (.inl (1, N, N, .inl (lo, hi, f), σ))) (hx : x.toInt = i) (h0 : 0 ≤ i) (hN : i < N) (hp : pc + 1 = pc') (hR : ∀ y : Int32, y.toInt = ab_ri h k i → lo ≤ y.toInt → y.toInt ≤ hi → mc_R l G mi d Q (pc', lv, .int y :: st, h, n, 0, 0)) : mc_R l G mi d Q (pc, lv, .int x :: .ref k :: st, h, n, 0, 0) := by
  subst hp
  obtain ⟨g, h1, h2, h3⟩ := mc_arr H hk hf rfl
  have hc := mc_clamp (x := x) (by omega)
  obtain ⟨⟨y, e1, e2, e3, -⟩, -, e4⟩ := h3 x.toNatClampNeg (by omega)
  refine mc_stp hmi ha ?_ (hR y ?_ e2 e3)
  · simp only [ax_step, ax_s_bald, h1, beq_self_eq_true, mc_in (x := x) (N := N) (by omega) (by omega), Bool.and_self, cond_true, e1]
  · rw [hc, hx, e1] at e4
    unfold ab_ri
    rw [e4]
theorem mc_inP {l : Launch} {G : ax_T} {d : Nat} (hd : 1 ≤ d) (v a b : Int32) (h : ax_H) (n : Nat) : mc_M l G d mt_X11_in [.int v, .int a, .int b] h n (mc_P h n fun y => y.toInt = 1 ∧ (a.toInt ≤ v.toInt ∧ v.toInt ≤ b.toInt) ∨ y.toInt = 0 ∧ ¬ (a.toInt ≤ v.toInt ∧ v.toInt ≤ b.toInt)) := by
  obtain ⟨d, rfl⟩ : ∃ e, d = e + 1 := ⟨d - 1, by omega⟩
  refine ⟨_, in_ok v a b h n, rfl, rfl, _, rfl, ?_⟩
  by_cases q : a.toInt ≤ v.toInt ∧ v.toInt ≤ b.toInt
  · exact Or.inl ⟨by rw [if_pos q]; rfl, q⟩
  · exact Or.inr ⟨by rw [if_neg q]; rfl, q⟩
theorem mc_rb {y : Int32} (h : y.toInt = 0 ∨ y.toInt = 1) : ax_retT (some .boolean) (some (.int y)) = true := by
  show (y == 0 || y == 1) = true
  rcases h with h | h
  · have : y = 0 := Int32.toInt_inj.mp h
    subst this; rfl
  · have : y = 1 := Int32.toInt_inj.mp h
    subst this; rfl
theorem mc_isRow {l : Launch} {G : ax_T} {d : Nat} (hd : 2 ≤ d) (r : Int32) (h : ax_H) (n : Nat) : mc_M l G d mt_X11_isRow [.int r] h n (mc_P h n fun y => y.toInt = 1 ∧ (0 ≤ r.toInt ∧ r.toInt ≤ 11) ∨ y.toInt = 0 ∧ ¬ (0 ≤ r.toInt ∧ r.toInt ≤ 11)) := by
  obtain ⟨d, rfl⟩ : ∃ e, d = e + 1 := ⟨d - 1, by omega⟩
  have hmi : mt_X11_isRow ∈ mt_prog := List.mem_of_getElem? mi_X11_isRow
  refine mc_to hmi rfl ?_
  show mc_R _ _ _ _ _ (0, [(0, .int r)], [], h, n, 0, 0)
  refine mc_cx hmi 3 (F' := (4, [(0, .int r)], [.int (Int8.ofInt 11).toInt32, .int (Int32.ofInt 0), .int r], h, n, 0, 0)) (by with_unfolding_all rfl) ?_
  refine mc_callP hmi (en := (4, .invokestatic 120, 3, (3, 152, 0, 0), [1291, 1290])) rfl (q := (mt_X11_in, [.int r, .int (Int32.ofInt 0), .int (Int8.ofInt 11).toInt32], [])) (by with_unfolding_all rfl) ⟨rfl, rfl⟩ (pc' := 7) rfl (mc_inP (by omega) _ _ _ _ _) (fun y1 (e2 : y1.toInt = 1 ∧ (0 ≤ r.toInt ∧ r.toInt ≤ 11) ∨ y1.toInt = 0 ∧ ¬ (0 ≤ r.toInt ∧ r.toInt ≤ 11)) => ?_)
  exact mc_ret hmi rfl rfl (mc_rb (by omega)) ⟨rfl, rfl, _, rfl, e2⟩
/-- is what stands at a place taken: x there, the places from k on, c of them -/
def tk (f : Int → Int) (x : Int) : Nat → Int → Bool
  | 0, _ => false
  | c + 1, k => if f k = x then tk f x c (k + 1) else decide (x < f k)
theorem tk_550 {l : Launch} {G : ax_T} {d : Nat} {h : ax_H} {n : Nat} (H : mc_HW h n) (b s i : Int32) (hb : 0 ≤ b.toInt) (hi : 0 ≤ i.toInt) (his : i.toInt < s.toInt) (hN : b.toInt + s.toInt ≤ 312) : ∀ (c : Nat) (k : Int32), k.toInt + (c : Int) = s.toInt → i.toInt < k.toInt → mc_R l G mt_X11_isTaken d (mc_P h n fun y => y.toInt = if tk (ab_ri h 550) (ab_ri h 550 (b.toInt + i.toInt)) c (b.toInt + k.toInt) then 1 else 0) (5, [(0, .ref 550), (1, .int b), (2, .int s), (3, .int i), (4, .int k)], [], h, n, 0, 0) := by
  have hmi : mt_X11_isTaken ∈ mt_prog := List.mem_of_getElem? mi_X11_isTaken
  intro c
  induction c with
  | zero =>
    intro k hk hik
    refine mc_cx hmi 2 (F' := (8, [(0, .ref 550), (1, .int b), (2, .int s), (3, .int i), (4, .int k)], [.int s, .int k], h, n, 0, 0)) (by with_unfolding_all rfl) ?_
    refine mc_ci hmi (c := .ge) (tg := 31) (pc' := 11) rfl rfl rfl rfl rfl (fun (q3 : s.toInt ≤ k.toInt) => ?_) (fun (q3 : k.toInt < s.toInt) => ?_)
    · refine mc_cx hmi 2 (F' := (34, [(0, .ref 550), (1, .int b), (2, .int s), (3, .int i), (4, .int k)], [.int s, .int k], h, n, 0, 0)) (by with_unfolding_all rfl) ?_
      refine mc_ci hmi (c := .ge) (tg := 55) (pc' := 37) rfl rfl rfl rfl rfl (fun (q4 : s.toInt ≤ k.toInt) => ?_) (fun (q4 : k.toInt < s.toInt) => ?_)
      · refine mc_cx hmi 1 (F' := (56, [(0, .ref 550), (1, .int b), (2, .int s), (3, .int i), (4, .int k)], [.int (Int32.ofInt 0)], h, n, 0, 0)) (by with_unfolding_all rfl) ?_
        exact mc_ret hmi rfl rfl rfl ⟨rfl, rfl, _, rfl, rfl⟩
      · exact absurd q4 (by omega)
    · exact absurd q3 (by omega)
  | succ c ih =>
    intro k hk hik
    refine mc_cx hmi 2 (F' := (8, [(0, .ref 550), (1, .int b), (2, .int s), (3, .int i), (4, .int k)], [.int s, .int k], h, n, 0, 0)) (by with_unfolding_all rfl) ?_
    refine mc_ci hmi (c := .ge) (tg := 31) (pc' := 11) rfl rfl rfl rfl rfl (fun (q5 : s.toInt ≤ k.toInt) => ?_) (fun (q5 : k.toInt < s.toInt) => ?_)
    · exact absurd q5 (by omega)
    · refine mc_cx hmi 4 (F' := (16, [(0, .ref 550), (1, .int b), (2, .int s), (3, .int i), (4, .int k)], [.int (b + k), .ref 550], h, n, 0, 0)) (by with_unfolding_all rfl) ?_
      have e6 : (b + k).toInt = b.toInt + k.toInt := mc_add rfl rfl (by omega) (by omega)
      refine mc_iald hmi H (k := 550) (i := (b.toInt + k.toInt)) (pc' := 17) rfl rfl rfl e6 (by omega) (by omega) rfl (fun y7 e8 r9 r10 => ?_)
      rw [e8] at r9 r10
      refine mc_cx hmi 4 (F' := (21, [(0, .ref 550), (1, .int b), (2, .int s), (3, .int i), (4, .int k)], [.int (b + i), .ref 550, .int y7], h, n, 0, 0)) (by with_unfolding_all rfl) ?_
      have e11 : (b + i).toInt = b.toInt + i.toInt := mc_add rfl rfl (by omega) (by omega)
      refine mc_iald hmi H (k := 550) (i := (b.toInt + i.toInt)) (pc' := 22) rfl rfl rfl e11 (by omega) (by omega) rfl (fun y12 e13 r14 r15 => ?_)
      rw [e13] at r14 r15
      refine mc_ci hmi (c := .ne) (tg := 31) (pc' := 25) rfl rfl rfl e8 e13 (fun (q16 : ab_ri h 550 ((b.toInt + k.toInt)) ≠ ab_ri h 550 ((b.toInt + i.toInt))) => ?_) (fun (q16 : ab_ri h 550 ((b.toInt + k.toInt)) = ab_ri h 550 ((b.toInt + i.toInt))) => ?_)
      · refine mc_cx hmi 2 (F' := (34, [(0, .ref 550), (1, .int b), (2, .int s), (3, .int i), (4, .int k)], [.int s, .int k], h, n, 0, 0)) (by with_unfolding_all rfl) ?_
        refine mc_ci hmi (c := .ge) (tg := 55) (pc' := 37) rfl rfl rfl rfl rfl (fun (q17 : s.toInt ≤ k.toInt) => ?_) (fun (q17 : k.toInt < s.toInt) => ?_)
        · exact absurd q17 (by omega)
        · refine mc_cx hmi 4 (F' := (42, [(0, .ref 550), (1, .int b), (2, .int s), (3, .int i), (4, .int k)], [.int (b + k), .ref 550], h, n, 0, 0)) (by with_unfolding_all rfl) ?_
          have e18 : (b + k).toInt = b.toInt + k.toInt := mc_add rfl rfl (by omega) (by omega)
          refine mc_iald hmi H (k := 550) (i := (b.toInt + k.toInt)) (pc' := 43) rfl rfl rfl e18 (by omega) (by omega) rfl (fun y19 e20 r21 r22 => ?_)
          rw [e20] at r21 r22
          refine mc_cx hmi 4 (F' := (47, [(0, .ref 550), (1, .int b), (2, .int s), (3, .int i), (4, .int k)], [.int (b + i), .ref 550, .int y19], h, n, 0, 0)) (by with_unfolding_all rfl) ?_
          have e23 : (b + i).toInt = b.toInt + i.toInt := mc_add rfl rfl (by omega) (by omega)
          refine mc_iald hmi H (k := 550) (i := (b.toInt + i.toInt)) (pc' := 48) rfl rfl rfl e23 (by omega) (by omega) rfl (fun y24 e25 r26 r27 => ?_)
          rw [e25] at r26 r27
          refine mc_ci hmi (c := .le) (tg := 55) (pc' := 51) rfl rfl rfl e20 e25 (fun (q28 : ab_ri h 550 ((b.toInt + k.toInt)) ≤ ab_ri h 550 ((b.toInt + i.toInt))) => ?_) (fun (q28 : ab_ri h 550 ((b.toInt + i.toInt)) < ab_ri h 550 ((b.toInt + k.toInt))) => ?_)
          · refine mc_cx hmi 1 (F' := (56, [(0, .ref 550), (1, .int b), (2, .int s), (3, .int i), (4, .int k)], [.int (Int32.ofInt 0)], h, n, 0, 0)) (by with_unfolding_all rfl) ?_
            refine mc_ret hmi rfl rfl (mc_rb (by decide)) ⟨rfl, rfl, _, rfl, ?_⟩
            show _ = if (if ab_ri h 550 (b.toInt + k.toInt) = ab_ri h 550 (b.toInt + i.toInt) then _ else decide (ab_ri h 550 (b.toInt + i.toInt) < ab_ri h 550 (b.toInt + k.toInt))) = true then (1 : Int) else 0
            rw [if_neg q16, decide_eq_false (by omega)]
            rfl
          · refine mc_cx hmi 2 (F' := (56, [(0, .ref 550), (1, .int b), (2, .int s), (3, .int i), (4, .int k)], [.int (Int32.ofInt 1)], h, n, 0, 0)) (by with_unfolding_all rfl) ?_
            refine mc_ret hmi rfl rfl (mc_rb (by decide)) ⟨rfl, rfl, _, rfl, ?_⟩
            show _ = if (if ab_ri h 550 (b.toInt + k.toInt) = ab_ri h 550 (b.toInt + i.toInt) then _ else decide (ab_ri h 550 (b.toInt + i.toInt) < ab_ri h 550 (b.toInt + k.toInt))) = true then (1 : Int) else 0
            rw [if_neg q16, decide_eq_true (by omega)]
            rfl
      · refine mc_cx hmi 2 (F' := (5, [(4, .int (k + Int32.ofInt 1)), (0, .ref 550), (1, .int b), (2, .int s), (3, .int i)], [], h, n, 0, 0)) (by with_unfolding_all rfl) ?_
        have e29 : (k + Int32.ofInt 1).toInt = k.toInt + 1 := mc_add rfl (by decide) (by omega) (by omega)
        refine mc_lvs (lv' := [(0, .ref 550), (1, .int b), (2, .int s), (3, .int i), (4, .int (k + Int32.ofInt 1))]) (by simp) ?_
        refine (show (if tk (ab_ri h 550) (ab_ri h 550 (b.toInt + i.toInt)) (c + 1) (b.toInt + k.toInt) then (1 : Int) else 0) = (if tk (ab_ri h 550) (ab_ri h 550 (b.toInt + i.toInt)) c (b.toInt + (k + Int32.ofInt 1).toInt) then (1 : Int) else 0) from ?_) ▸ ih (k + Int32.ofInt 1) (by rw [e29]; omega) (by rw [e29]; omega)
        rw [e29, show tk (ab_ri h 550) (ab_ri h 550 (b.toInt + i.toInt)) (c + 1) (b.toInt + k.toInt) = tk (ab_ri h 550) (ab_ri h 550 (b.toInt + i.toInt)) c (b.toInt + k.toInt + 1) from if_pos q16, Int.add_assoc]
theorem mc_isTaken_550 {l : Launch} {G : ax_T} {d : Nat} (hd : 1 ≤ d) {h : ax_H} {n : Nat} (H : mc_HW h n) (b s i : Int32) (hb : 0 ≤ b.toInt) (hi : 0 ≤ i.toInt) (his : i.toInt < s.toInt) (hN : b.toInt + s.toInt ≤ 312) : mc_M l G d mt_X11_isTaken [.ref 550, .int b, .int s, .int i] h n (mc_P h n fun y => y.toInt = if tk (ab_ri h 550) (ab_ri h 550 (b.toInt + i.toInt)) (s.toInt - i.toInt - 1).toNat (b.toInt + i.toInt + 1) then 1 else 0) := by
  obtain ⟨d, rfl⟩ : ∃ e, d = e + 1 := ⟨d - 1, by omega⟩
  have hmi : mt_X11_isTaken ∈ mt_prog := List.mem_of_getElem? mi_X11_isTaken
  refine mc_to hmi rfl ?_
  show mc_R _ _ _ _ _ (0, [(0, .ref 550), (1, .int b), (2, .int s), (3, .int i)], [], h, n, 0, 0)
  refine mc_cx hmi 4 (F' := (5, [(4, .int (i + (Int32.ofInt 1))), (0, .ref 550), (1, .int b), (2, .int s), (3, .int i)], [], h, n, 0, 0)) (by with_unfolding_all rfl) ?_
  have e30 : (i + (Int32.ofInt 1)).toInt = i.toInt + 1 := mc_add rfl (by decide) (by omega) (by omega)
  refine mc_lvs (lv' := [(0, .ref 550), (1, .int b), (2, .int s), (3, .int i), (4, .int (i + (Int32.ofInt 1)))]) (by simp) ?_
  refine (show b.toInt + (i + (Int32.ofInt 1)).toInt = b.toInt + i.toInt + 1 by rw [e30]; omega) ▸ tk_550 H b s i hb hi his hN (s.toInt - i.toInt - 1).toNat (i + (Int32.ofInt 1)) (by rw [e30]; omega) (by rw [e30]; omega)
/-- how many of a sign stand in a row, taken or not -/
def pw (f : Int → Int) (b : Int) (sz : Nat) (s : Int) (t : Bool) : Nat → Int
  | 0 => 0
  | i + 1 => pw f b sz s t i + (if f (b + (i : Int)) = s ∧ tk f (f (b + (i : Int))) (sz - i - 1) (b + (i : Int) + 1) = t then 1 else 0)
theorem pw_bd (f : Int → Int) (b : Int) (sz : Nat) (s : Int) (t : Bool) : ∀ i : Nat, 0 ≤ pw f b sz s t i ∧ pw f b sz s t i ≤ (i : Int)
  | 0 => ⟨Int.le_refl _, Int.le_refl _⟩
  | i + 1 => by
    have := pw_bd f b sz s t i
    show 0 ≤ pw f b sz s t i + _ ∧ pw f b sz s t i + _ ≤ _
    split <;> omega
def PT (h : ax_H) (r s z : Int) : Int := pw (ab_ri h 550) (24 * r) (ab_ri h 549 r).toNat s (decide (z = 1)) (ab_ri h 549 r).toNat
theorem PT_of {h h' : ax_H} (e : ∀ (k : Nat) (i : Int), k ≠ 551 → k ≠ 552 → ab_rd h' k i = ab_rd h k i) (r s z : Int) : PT h' r s z = PT h r s z := by
  have e1 : ab_ri h' 550 = ab_ri h 550 := funext fun i => ab_ri_of (e 550 i (by decide) (by decide))
  have e2 : ab_ri h' 549 = ab_ri h 549 := funext fun i => ab_ri_of (e 549 i (by decide) (by decide))
  unfold PT
  rw [e1, e2]
theorem po_loop {l : Launch} {G : ax_T} {d : Nat} (hd : 1 ≤ d) {h : ax_H} {n : Nat} (H : mc_HW h n) (r s z : Int32) (hr0 : 0 ≤ r.toInt) (hr1 : r.toInt ≤ 11) (hz : z.toInt = 0 ∨ z.toInt = 1) : ∀ (c j : Nat) (a i : Int32), j + c = (ab_ri h 549 r.toInt).toNat → i.toInt = (j : Int) → a.toInt = pw (ab_ri h 550) (24 * r.toInt) (ab_ri h 549 r.toInt).toNat s.toInt (decide (z.toInt = 1)) j → mc_R l G mt_X11_poured d (mc_P h n fun y => y.toInt = PT h r.toInt s.toInt z.toInt) (6, [(0, .ref 542), (1, .int r), (2, .int s), (3, .int z), (4, .int a), (5, .int i)], [], h, n, 0, 0) := by
  have hmi : mt_X11_poured ∈ mt_prog := List.mem_of_getElem? mi_X11_poured
  have hsz := mc_rng H (k := 549) (i := r.toInt) rfl rfl hr0 (by omega)
  intro c
  induction c with
  | zero =>
    intro j a i hj hi ha
    have hb := pw_bd (ab_ri h 550) (24 * r.toInt) (ab_ri h 549 r.toInt).toNat s.toInt (decide (z.toInt = 1)) j
    refine mc_cx hmi 2 (F' := (9, [(0, .ref 542), (1, .int r), (2, .int s), (3, .int z), (4, .int a), (5, .int i)], [.ref 542, .int i], h, n, 0, 0)) (by with_unfolding_all rfl) ?_
    refine mc_getr hmi H (k := 542) (c := 549) (pc' := 12) rfl rfl rfl rfl rfl ?_
    refine mc_cx hmi 1 (F' := (13, [(0, .ref 542), (1, .int r), (2, .int s), (3, .int z), (4, .int a), (5, .int i)], [.int r, .ref 549, .int i], h, n, 0, 0)) (by with_unfolding_all rfl) ?_
    refine mc_iald hmi H (k := 549) (i := r.toInt) (pc' := 14) rfl rfl rfl rfl (by omega) (by omega) rfl (fun y31 e32 r33 r34 => ?_)
    rw [e32] at r33 r34
    refine mc_ci hmi (c := .ge) (tg := 72) (pc' := 17) rfl rfl rfl hi e32 (fun (q35 : ab_ri h 549 (r.toInt) ≤ (j : Int)) => ?_) (fun (q35 : (j : Int) < ab_ri h 549 (r.toInt)) => ?_)
    · refine mc_cx hmi 1 (F' := (74, [(0, .ref 542), (1, .int r), (2, .int s), (3, .int z), (4, .int a), (5, .int i)], [.int a], h, n, 0, 0)) (by with_unfolding_all rfl) ?_
      exact mc_ret hmi rfl rfl rfl ⟨rfl, rfl, _, rfl, by show a.toInt = _; rw [ha, show j = (ab_ri h 549 r.toInt).toNat by omega]; rfl⟩
    · exact absurd q35 (by omega)
  | succ c ih =>
    intro j a i hj hi ha
    have hb := pw_bd (ab_ri h 550) (24 * r.toInt) (ab_ri h 549 r.toInt).toNat s.toInt (decide (z.toInt = 1)) j
    refine mc_cx hmi 2 (F' := (9, [(0, .ref 542), (1, .int r), (2, .int s), (3, .int z), (4, .int a), (5, .int i)], [.ref 542, .int i], h, n, 0, 0)) (by with_unfolding_all rfl) ?_
    refine mc_getr hmi H (k := 542) (c := 549) (pc' := 12) rfl rfl rfl rfl rfl ?_
    refine mc_cx hmi 1 (F' := (13, [(0, .ref 542), (1, .int r), (2, .int s), (3, .int z), (4, .int a), (5, .int i)], [.int r, .ref 549, .int i], h, n, 0, 0)) (by with_unfolding_all rfl) ?_
    refine mc_iald hmi H (k := 549) (i := r.toInt) (pc' := 14) rfl rfl rfl rfl (by omega) (by omega) rfl (fun y36 e37 r38 r39 => ?_)
    rw [e37] at r38 r39
    refine mc_ci hmi (c := .ge) (tg := 72) (pc' := 17) rfl rfl rfl hi e37 (fun (q40 : ab_ri h 549 (r.toInt) ≤ (j : Int)) => ?_) (fun (q40 : (j : Int) < ab_ri h 549 (r.toInt)) => ?_)
    · exact absurd q40 (by omega)
    · refine mc_cx hmi 2 (F' := (20, [(0, .ref 542), (1, .int r), (2, .int s), (3, .int z), (4, .int a), (5, .int i)], [.ref 542, .int a], h, n, 0, 0)) (by with_unfolding_all rfl) ?_
      refine mc_getr hmi H (k := 542) (c := 550) (pc' := 23) rfl rfl rfl rfl rfl ?_
      refine mc_cx hmi 5 (F' := (30, [(0, .ref 542), (1, .int r), (2, .int s), (3, .int z), (4, .int a), (5, .int i)], [.int (((Int8.ofInt 24).toInt32 * r) + i), .ref 550, .int a], h, n, 0, 0)) (by with_unfolding_all rfl) ?_
      have e41 : ((Int8.ofInt 24).toInt32 * r).toInt = 24 * r.toInt := mc_mul (by decide) rfl (by omega) (by omega)
      have e42 : (((Int8.ofInt 24).toInt32 * r) + i).toInt = (24 * r.toInt) + (j : Int) := mc_add e41 hi (by omega) (by omega)
      refine mc_iald hmi H (k := 550) (i := ((24 * r.toInt) + (j : Int))) (pc' := 31) rfl rfl rfl e42 (by omega) (by omega) rfl (fun y43 e44 r45 r46 => ?_)
      rw [e44] at r45 r46
      refine mc_cx hmi 1 (F' := (32, [(0, .ref 542), (1, .int r), (2, .int s), (3, .int z), (4, .int a), (5, .int i)], [.int s, .int y43, .int a], h, n, 0, 0)) (by with_unfolding_all rfl) ?_
      have key : ∀ u : Int32, u.toInt = (if ab_ri h 550 (24 * r.toInt + (j : Int)) = s.toInt ∧ tk (ab_ri h 550) (ab_ri h 550 (24 * r.toInt + (j : Int))) ((ab_ri h 549 r.toInt).toNat - j - 1) (24 * r.toInt + (j : Int) + 1) = decide (z.toInt = 1) then (1 : Int) else 0) → mc_R l G mt_X11_poured d (mc_P h n fun y => y.toInt = PT h r.toInt s.toInt z.toInt) (63, [(0, .ref 542), (1, .int r), (2, .int s), (3, .int z), (4, .int a), (5, .int i)], [.int u, .int a], h, n, 0, 0) := by
        intro u hu
        have hu1 : 0 ≤ u.toInt ∧ u.toInt ≤ 1 := by rw [hu]; split <;> decide
        rw [hu] at hu1
        refine mc_cx hmi 4 (F' := (6, [(5, .int (i + Int32.ofInt 1)), (4, .int (a + u)), (0, .ref 542), (1, .int r), (2, .int s), (3, .int z)], [], h, n, 0, 0)) (by with_unfolding_all rfl) ?_
        have e47 : (a + u).toInt = (pw (ab_ri h 550) (24 * r.toInt) (ab_ri h 549 r.toInt).toNat s.toInt (decide (z.toInt = 1)) j) + (if ab_ri h 550 (24 * r.toInt + (j : Int)) = s.toInt ∧ tk (ab_ri h 550) (ab_ri h 550 (24 * r.toInt + (j : Int))) ((ab_ri h 549 r.toInt).toNat - j - 1) (24 * r.toInt + (j : Int) + 1) = decide (z.toInt = 1) then (1 : Int) else 0) := mc_add ha hu (by omega) (by omega)
        have e48 : (i + Int32.ofInt 1).toInt = (j : Int) + 1 := mc_add hi (by decide) (by omega) (by omega)
        refine mc_lvs (lv' := [(0, .ref 542), (1, .int r), (2, .int s), (3, .int z), (4, .int (a + u)), (5, .int (i + Int32.ofInt 1))]) (by simp) ?_
        exact ih (j + 1) (a + u) (i + Int32.ofInt 1) (by omega) (by rw [e48]; omega) (by rw [e47]; rfl)
      refine mc_ci hmi (c := .ne) (tg := 62) (pc' := 35) rfl rfl rfl e44 rfl (fun (q49 : ab_ri h 550 (((24 * r.toInt) + (j : Int))) ≠ s.toInt) => ?_) (fun (q49 : ab_ri h 550 (((24 * r.toInt) + (j : Int))) = s.toInt) => ?_)
      · refine mc_cx hmi 1 (F' := (63, [(0, .ref 542), (1, .int r), (2, .int s), (3, .int z), (4, .int a), (5, .int i)], [.int (Int32.ofInt 0), .int a], h, n, 0, 0)) (by with_unfolding_all rfl) ?_
        exact key _ (by rw [if_neg (fun q => q49 q.1)]; decide)
      · refine mc_cx hmi 1 (F' := (36, [(0, .ref 542), (1, .int r), (2, .int s), (3, .int z), (4, .int a), (5, .int i)], [.ref 542, .int a], h, n, 0, 0)) (by with_unfolding_all rfl) ?_
        refine mc_getr hmi H (k := 542) (c := 550) (pc' := 39) rfl rfl rfl rfl rfl ?_
        refine mc_cx hmi 4 (F' := (44, [(0, .ref 542), (1, .int r), (2, .int s), (3, .int z), (4, .int a), (5, .int i)], [.ref 542, .int ((Int8.ofInt 24).toInt32 * r), .ref 550, .int a], h, n, 0, 0)) (by with_unfolding_all rfl) ?_
        have e50 : ((Int8.ofInt 24).toInt32 * r).toInt = 24 * r.toInt := mc_mul (by decide) rfl (by omega) (by omega)
        refine mc_getr hmi H (k := 542) (c := 549) (pc' := 47) rfl rfl rfl rfl rfl ?_
        refine mc_cx hmi 1 (F' := (48, [(0, .ref 542), (1, .int r), (2, .int s), (3, .int z), (4, .int a), (5, .int i)], [.int r, .ref 549, .int ((Int8.ofInt 24).toInt32 * r), .ref 550, .int a], h, n, 0, 0)) (by with_unfolding_all rfl) ?_
        refine mc_iald hmi H (k := 549) (i := r.toInt) (pc' := 49) rfl rfl rfl rfl (by omega) (by omega) rfl (fun y51 e52 r53 r54 => ?_)
        rw [e52] at r53 r54
        refine mc_cx hmi 1 (F' := (51, [(0, .ref 542), (1, .int r), (2, .int s), (3, .int z), (4, .int a), (5, .int i)], [.int i, .int y51, .int ((Int8.ofInt 24).toInt32 * r), .ref 550, .int a], h, n, 0, 0)) (by with_unfolding_all rfl) ?_
        refine mc_callP hmi (en := (51, .invokestatic 145, 3, (3, 165, 0, 0), [1329, 1328])) rfl (q := (mt_X11_isTaken, [.ref 550, .int ((Int8.ofInt 24).toInt32 * r), .int y51, .int i], [.int a])) (by with_unfolding_all rfl) ⟨rfl, rfl⟩ (pc' := 54) rfl (mc_isTaken_550 hd H ((Int8.ofInt 24).toInt32 * r) y51 i (by rw [e50]; omega) (by rw [hi]; omega) (by rw [hi, e52]; omega) (by rw [e50, e52]; omega)) (fun y55 e56 => ?_)
        rw [e50, e52, hi, show (ab_ri h 549 r.toInt - (j : Int) - 1).toNat = (ab_ri h 549 r.toInt).toNat - j - 1 by omega] at e56
        refine mc_cx hmi 1 (F' := (55, [(0, .ref 542), (1, .int r), (2, .int s), (3, .int z), (4, .int a), (5, .int i)], [.int z, .int y55, .int a], h, n, 0, 0)) (by with_unfolding_all rfl) ?_
        have ht : ∀ b : Bool, tk (ab_ri h 550) (ab_ri h 550 (24 * r.toInt + (j : Int))) ((ab_ri h 549 r.toInt).toNat - j - 1) (24 * r.toInt + (j : Int) + 1) = b → (y55.toInt = z.toInt ↔ b = decide (z.toInt = 1)) := by
          intro b hb
          rw [e56, hb]
          rcases hz with hz | hz <;> rw [hz] <;> cases b <;> decide
        refine mc_ci hmi (c := .ne) (tg := 62) (pc' := 58) rfl rfl rfl rfl rfl (fun (q57 : y55.toInt ≠ z.toInt) => ?_) (fun (q57 : y55.toInt = z.toInt) => ?_)
        · refine mc_cx hmi 1 (F' := (63, [(0, .ref 542), (1, .int r), (2, .int s), (3, .int z), (4, .int a), (5, .int i)], [.int (Int32.ofInt 0), .int a], h, n, 0, 0)) (by with_unfolding_all rfl) ?_
          exact key _ (by rw [if_neg (fun q => q57 ((ht _ rfl).mpr q.2))]; decide)
        · refine mc_cx hmi 2 (F' := (63, [(0, .ref 542), (1, .int r), (2, .int s), (3, .int z), (4, .int a), (5, .int i)], [.int (Int32.ofInt 1), .int a], h, n, 0, 0)) (by with_unfolding_all rfl) ?_
          exact key _ (by rw [if_pos ⟨q49, (ht _ rfl).mp q57⟩]; decide)
theorem mc_poured {l : Launch} {G : ax_T} {d : Nat} (hd : 2 ≤ d) {h : ax_H} {n : Nat} (H : mc_HW h n) (r s z : Int32) (hr0 : 0 ≤ r.toInt) (hr1 : r.toInt ≤ 11) (hz : z.toInt = 0 ∨ z.toInt = 1) : mc_M l G d mt_X11_poured [.ref 542, .int r, .int s, .int z] h n (mc_P h n fun y => y.toInt = PT h r.toInt s.toInt z.toInt) := by
  obtain ⟨d, rfl⟩ : ∃ e, d = e + 1 := ⟨d - 1, by omega⟩
  have hmi : mt_X11_poured ∈ mt_prog := List.mem_of_getElem? mi_X11_poured
  refine mc_to hmi rfl ?_
  show mc_R _ _ _ _ _ (0, [(0, .ref 542), (1, .int r), (2, .int s), (3, .int z)], [], h, n, 0, 0)
  refine mc_cx hmi 4 (F' := (6, [(5, .int (Int32.ofInt 0)), (4, .int (Int32.ofInt 0)), (0, .ref 542), (1, .int r), (2, .int s), (3, .int z)], [], h, n, 0, 0)) (by with_unfolding_all rfl) ?_
  refine mc_lvs (lv' := [(0, .ref 542), (1, .int r), (2, .int s), (3, .int z), (4, .int (Int32.ofInt 0)), (5, .int (Int32.ofInt 0))]) (by simp) ?_
  exact po_loop (by omega) H r s z hr0 hr1 hz _ 0 _ _ (Nat.zero_add _) rfl rfl
end
section
/-! ===== by hand: pour and lift of the reference (ways printed by wip/hand/h_pour2.py) ===== -/
set_option maxRecDepth 100000 in
theorem pu_a {l : Launch} {G : ax_T} {d : Nat} {Q : Option Value → ax_H → Nat → Prop} {h : ax_H} {n : Nat} (H : mc_HW h n) (r z : Int32) (hr0 : 0 ≤ r.toInt) (hr1 : r.toInt ≤ 11) (kx : ∀ y : Int32, Q (some (.int y)) h n) (kk : mc_R l G mt_X11_pour d Q (47, [(0, .ref 542), (1, .int r), (2, .int z)], [], h, n, 0, 0)) : ∀ (c j : Nat) (i : Int32), j + c = (ab_ri h 549 r.toInt).toNat → i.toInt = (j : Int) → mc_R l G mt_X11_pour d Q (12, [(0, .ref 542), (1, .int r), (2, .int z), (3, .int i)], [], h, n, 0, 0) := by
  have hmi : mt_X11_pour ∈ mt_prog := List.mem_of_getElem? mi_X11_pour
  have hsz := mc_rng H (k := 549) (i := r.toInt) rfl rfl hr0 (by omega)
  intro c
  induction c with
  | zero =>
    intro j i hj hi
    refine mc_cx hmi 2 (F' := (14, [(0, .ref 542), (1, .int r), (2, .int z), (3, .int i)], [.ref 542, .int i], h, n, 0, 0)) (by with_unfolding_all rfl) ?_
    refine mc_getr hmi H (k := 542) (c := 549) (pc' := 17) rfl rfl rfl rfl rfl ?_
    refine mc_cx hmi 1 (F' := (18, [(0, .ref 542), (1, .int r), (2, .int z), (3, .int i)], [.int r, .ref 549, .int i], h, n, 0, 0)) (by with_unfolding_all rfl) ?_
    refine mc_iald hmi H (k := 549) (i := r.toInt) (pc' := 19) rfl rfl rfl rfl (by omega) (by omega) rfl (fun y1 e2 r3 r4 => ?_)
    rw [e2] at r3 r4
    refine mc_ci hmi (c := .ge) (tg := 47) (pc' := 22) rfl rfl rfl hi e2 (fun (q5 : ab_ri h 549 (r.toInt) ≤ (j : Int)) => ?_) (fun (q5 : (j : Int) < ab_ri h 549 (r.toInt)) => ?_)
    · refine mc_lvs (lv' := [(0, .ref 542), (1, .int r), (2, .int z)]) (by simp) ?_
      exact kk
    · exact absurd q5 (by omega)
  | succ c ih =>
    intro j i hj hi
    refine mc_cx hmi 2 (F' := (14, [(0, .ref 542), (1, .int r), (2, .int z), (3, .int i)], [.ref 542, .int i], h, n, 0, 0)) (by with_unfolding_all rfl) ?_
    refine mc_getr hmi H (k := 542) (c := 549) (pc' := 17) rfl rfl rfl rfl rfl ?_
    refine mc_cx hmi 1 (F' := (18, [(0, .ref 542), (1, .int r), (2, .int z), (3, .int i)], [.int r, .ref 549, .int i], h, n, 0, 0)) (by with_unfolding_all rfl) ?_
    refine mc_iald hmi H (k := 549) (i := r.toInt) (pc' := 19) rfl rfl rfl rfl (by omega) (by omega) rfl (fun y6 e7 r8 r9 => ?_)
    rw [e7] at r8 r9
    refine mc_ci hmi (c := .ge) (tg := 47) (pc' := 22) rfl rfl rfl hi e7 (fun (q10 : ab_ri h 549 (r.toInt) ≤ (j : Int)) => ?_) (fun (q10 : (j : Int) < ab_ri h 549 (r.toInt)) => ?_)
    · exact absurd q10 (by omega)
    · refine mc_cx hmi 1 (F' := (23, [(0, .ref 542), (1, .int r), (2, .int z), (3, .int i)], [.ref 542], h, n, 0, 0)) (by with_unfolding_all rfl) ?_
      refine mc_getr hmi H (k := 542) (c := 550) (pc' := 26) rfl rfl rfl rfl rfl ?_
      refine mc_cx hmi 5 (F' := (32, [(0, .ref 542), (1, .int r), (2, .int z), (3, .int i)], [.int (((Int8.ofInt 24).toInt32 * r) + i), .ref 550], h, n, 0, 0)) (by with_unfolding_all rfl) ?_
      have e11 : ((Int8.ofInt 24).toInt32 * r).toInt = 24 * r.toInt := mc_mul (by decide) rfl (by omega) (by omega)
      have e12 : (((Int8.ofInt 24).toInt32 * r) + i).toInt = (24 * r.toInt) + (j : Int) := mc_add e11 hi (by omega) (by omega)
      refine mc_iald hmi H (k := 550) (i := ((24 * r.toInt) + (j : Int))) (pc' := 33) rfl rfl rfl e12 (by omega) (by omega) rfl (fun y13 e14 r15 r16 => ?_)
      rw [e14] at r15 r16
      refine mc_cx hmi 1 (F' := (35, [(0, .ref 542), (1, .int r), (2, .int z), (3, .int i)], [.int (Int8.ofInt 6).toInt32, .int y13], h, n, 0, 0)) (by with_unfolding_all rfl) ?_
      refine mc_ci hmi (c := .le) (tg := 41) (pc' := 38) rfl rfl rfl e14 (by decide) (fun (q17 : ab_ri h 550 (((24 * r.toInt) + (j : Int))) ≤ 6) => ?_) (fun (q17 : 6 < ab_ri h 550 (((24 * r.toInt) + (j : Int)))) => ?_)
      · refine mc_cx hmi 2 (F' := (12, [(3, .int (i + Int32.ofInt 1)), (0, .ref 542), (1, .int r), (2, .int z)], [], h, n, 0, 0)) (by with_unfolding_all rfl) ?_
        have e18 : (i + Int32.ofInt 1).toInt = (j : Int) + 1 := mc_add hi (by decide) (by omega) (by omega)
        refine mc_lvs (lv' := [(0, .ref 542), (1, .int r), (2, .int z), (3, .int (i + Int32.ofInt 1))]) (by simp) ?_
        exact ih (j + 1) (i + Int32.ofInt 1) (by omega) (by rw [e18]; omega)
      · refine mc_cx hmi 1 (F' := (40, [(0, .ref 542), (1, .int r), (2, .int z), (3, .int i)], [.int (Int8.ofInt (-102)).toInt32], h, n, 0, 0)) (by with_unfolding_all rfl) ?_
        exact mc_ret hmi rfl rfl rfl (kx _)
set_option maxRecDepth 100000 in
theorem pu_b {l : Launch} {G : ax_T} {d : Nat} {Q : Option Value → ax_H → Nat → Prop} {h : ax_H} {n : Nat} (hd : 2 ≤ d) (H : mc_HW h n) (r z : Int32) (hr0 : 0 ≤ r.toInt) (hr1 : r.toInt ≤ 11) (hz : z.toInt = 0 ∨ z.toInt = 1) (kk : ∀ f : Int32, (f.toInt ≠ 0 → (∀ t : Nat, t < 7 → ab_ri h 551 (t : Int) + PT h r.toInt (t : Int) (1 - z.toInt) ≤ 99 ∧ ab_ri h 552 (t : Int) + PT h r.toInt (t : Int) z.toInt ≤ 99)) → mc_R l G mt_X11_pour d Q (125, [(0, .ref 542), (1, .int r), (2, .int z), (3, .int f)], [], h, n, 0, 0)) : ∀ (c j : Nat) (f s : Int32), j + c = 7 → s.toInt = (j : Int) → (f.toInt ≠ 0 → (∀ t : Nat, t < j → ab_ri h 551 (t : Int) + PT h r.toInt (t : Int) (1 - z.toInt) ≤ 99 ∧ ab_ri h 552 (t : Int) + PT h r.toInt (t : Int) z.toInt ≤ 99)) → mc_R l G mt_X11_pour d Q (52, [(0, .ref 542), (1, .int r), (2, .int z), (3, .int f), (4, .int s)], [], h, n, 0, 0) := by
  have hmi : mt_X11_pour ∈ mt_prog := List.mem_of_getElem? mi_X11_pour
  intro c
  induction c with
  | zero =>
    intro j f s hj hs hf
    refine mc_cx hmi 2 (F' := (56, [(0, .ref 542), (1, .int r), (2, .int z), (3, .int f), (4, .int s)], [.int (Int8.ofInt 7).toInt32, .int s], h, n, 0, 0)) (by with_unfolding_all rfl) ?_
    refine mc_ci hmi (c := .ge) (tg := 125) (pc' := 59) rfl rfl rfl hs (by decide) (fun (q19 : 7 ≤ (j : Int)) => ?_) (fun (q19 : (j : Int) < 7) => ?_)
    · refine mc_lvs (lv' := [(0, .ref 542), (1, .int r), (2, .int z), (3, .int f)]) (by simp) ?_
      have e : j = 7 := by omega
      subst e
      exact kk f hf
    · exact absurd q19 (by omega)
  | succ c ih =>
    intro j f s hj hs hf
    refine mc_cx hmi 2 (F' := (56, [(0, .ref 542), (1, .int r), (2, .int z), (3, .int f), (4, .int s)], [.int (Int8.ofInt 7).toInt32, .int s], h, n, 0, 0)) (by with_unfolding_all rfl) ?_
    refine mc_ci hmi (c := .ge) (tg := 125) (pc' := 59) rfl rfl rfl hs (by decide) (fun (q20 : 7 ≤ (j : Int)) => ?_) (fun (q20 : (j : Int) < 7) => ?_)
    · exact absurd q20 (by omega)
    · have fin : ∀ g : Int32, (g.toInt ≠ 0 → (∀ t : Nat, t < j + 1 → ab_ri h 551 (t : Int) + PT h r.toInt (t : Int) (1 - z.toInt) ≤ 99 ∧ ab_ri h 552 (t : Int) + PT h r.toInt (t : Int) z.toInt ≤ 99)) → mc_R l G mt_X11_pour d Q (118, [(0, .ref 542), (1, .int r), (2, .int z), (3, .int f), (4, .int s)], [.int g], h, n, 0, 0) := by
        intro g hg
        refine mc_cx hmi 3 (F' := (52, [(4, .int (s + Int32.ofInt 1)), (3, .int g), (0, .ref 542), (1, .int r), (2, .int z)], [], h, n, 0, 0)) (by with_unfolding_all rfl) ?_
        have e21 : (s + Int32.ofInt 1).toInt = (j : Int) + 1 := mc_add hs (by decide) (by omega) (by omega)
        refine mc_lvs (lv' := [(0, .ref 542), (1, .int r), (2, .int z), (3, .int g), (4, .int (s + Int32.ofInt 1))]) (by simp) ?_
        exact ih (j + 1) g (s + Int32.ofInt 1) (by omega) (by rw [e21]; omega) hg
      have bad : mc_R l G mt_X11_pour d Q (117, [(0, .ref 542), (1, .int r), (2, .int z), (3, .int f), (4, .int s)], [], h, n, 0, 0) := by
        refine mc_cx hmi 1 (F' := (118, [(0, .ref 542), (1, .int r), (2, .int z), (3, .int f), (4, .int s)], [.int (Int32.ofInt 0)], h, n, 0, 0)) (by with_unfolding_all rfl) ?_
        exact fin _ (fun q => absurd (by decide) q)
      refine mc_cx hmi 1 (F' := (60, [(0, .ref 542), (1, .int r), (2, .int z), (3, .int f), (4, .int s)], [.int f], h, n, 0, 0)) (by with_unfolding_all rfl) ?_
      refine mc_cz hmi (c := .eq) (tg := 117) (pc' := 63) rfl rfl rfl rfl (fun (q22 : f.toInt = 0) => ?_) (fun (q22 : f.toInt ≠ 0) => ?_)
      · exact bad
      · have hf' := hf q22
        refine mc_cx hmi 1 (F' := (64, [(0, .ref 542), (1, .int r), (2, .int z), (3, .int f), (4, .int s)], [.ref 542], h, n, 0, 0)) (by with_unfolding_all rfl) ?_
        refine mc_getr hmi H (k := 542) (c := 551) (pc' := 67) rfl rfl rfl rfl rfl ?_
        refine mc_cx hmi 1 (F' := (69, [(0, .ref 542), (1, .int r), (2, .int z), (3, .int f), (4, .int s)], [.int s, .ref 551], h, n, 0, 0)) (by with_unfolding_all rfl) ?_
        refine mc_iald hmi H (k := 551) (i := (j : Int)) (pc' := 70) rfl rfl rfl hs (by omega) (by omega) rfl (fun y23 e24 r25 r26 => ?_)
        rw [e24] at r25 r26
        refine mc_cx hmi 4 (F' := (75, [(0, .ref 542), (1, .int r), (2, .int z), (3, .int f), (4, .int s)], [.int z, .int s, .int r, .ref 542, .int y23], h, n, 0, 0)) (by with_unfolding_all rfl) ?_
        have key : ∀ u : Int32, u.toInt = 1 - z.toInt → mc_R l G mt_X11_pour d Q (83, [(0, .ref 542), (1, .int r), (2, .int z), (3, .int f), (4, .int s)], [.int u, .int s, .int r, .ref 542, .int y23], h, n, 0, 0) := by
          intro u hu
          refine mc_callP hmi (en := (83, .invokevirtual 218, 3, (3, 190, 11, 0), [1417, 93, 1415])) rfl (q := (mt_X11_poured, [.ref 542, .int r, .int s, .int u], [.int y23])) (mc_inv H (as := [.int r, .int s, .int u]) (rest := [.int y23]) rfl (by with_unfolding_all rfl) rfl rfl rfl) ⟨rfl, rfl⟩ (pc' := 86) rfl (mc_poured hd H r s u hr0 hr1 (by rw [hu]; omega)) (fun y27 e28 => ?_)
          rw [hu, hs] at e28
          have hp1 := pw_bd (ab_ri h 550) (24 * r.toInt) (ab_ri h 549 r.toInt).toNat (j : Int) (decide (1 - z.toInt = 1)) (ab_ri h 549 r.toInt).toNat
          have hp2 := pw_bd (ab_ri h 550) (24 * r.toInt) (ab_ri h 549 r.toInt).toNat (j : Int) (decide (z.toInt = 1)) (ab_ri h 549 r.toInt).toNat
          have hsz := mc_rng H (k := 549) (i := r.toInt) rfl rfl hr0 (by omega)
          have hp1' : 0 ≤ PT h r.toInt (j : Int) (1 - z.toInt) ∧ PT h r.toInt (j : Int) (1 - z.toInt) ≤ 24 := ⟨hp1.1, by have := hp1.2; unfold PT; omega⟩
          have hp2' : 0 ≤ PT h r.toInt (j : Int) z.toInt ∧ PT h r.toInt (j : Int) z.toInt ≤ 24 := ⟨hp2.1, by have := hp2.2; unfold PT; omega⟩
          refine mc_cx hmi 2 (F' := (89, [(0, .ref 542), (1, .int r), (2, .int z), (3, .int f), (4, .int s)], [.int (Int8.ofInt 99).toInt32, .int (y23 + y27)], h, n, 0, 0)) (by with_unfolding_all rfl) ?_
          have e29 : (y23 + y27).toInt = ab_ri h 551 ((j : Int)) + PT h r.toInt (j : Int) (1 - z.toInt) := mc_add e24 e28 (by omega) (by omega)
          refine mc_ci hmi (c := .gt) (tg := 117) (pc' := 92) rfl rfl rfl e29 (by decide) (fun (q30 : 99 < (ab_ri h 551 ((j : Int)) + PT h r.toInt (j : Int) (1 - z.toInt))) => ?_) (fun (q30 : (ab_ri h 551 ((j : Int)) + PT h r.toInt (j : Int) (1 - z.toInt)) ≤ 99) => ?_)
          · exact bad
          · refine mc_cx hmi 1 (F' := (93, [(0, .ref 542), (1, .int r), (2, .int z), (3, .int f), (4, .int s)], [.ref 542], h, n, 0, 0)) (by with_unfolding_all rfl) ?_
            refine mc_getr hmi H (k := 542) (c := 552) (pc' := 96) rfl rfl rfl rfl rfl ?_
            refine mc_cx hmi 1 (F' := (98, [(0, .ref 542), (1, .int r), (2, .int z), (3, .int f), (4, .int s)], [.int s, .ref 552], h, n, 0, 0)) (by with_unfolding_all rfl) ?_
            refine mc_iald hmi H (k := 552) (i := (j : Int)) (pc' := 99) rfl rfl rfl hs (by omega) (by omega) rfl (fun y31 e32 r33 r34 => ?_)
            rw [e32] at r33 r34
            refine mc_cx hmi 4 (F' := (104, [(0, .ref 542), (1, .int r), (2, .int z), (3, .int f), (4, .int s)], [.int z, .int s, .int r, .ref 542, .int y31], h, n, 0, 0)) (by with_unfolding_all rfl) ?_
            refine mc_callP hmi (en := (104, .invokevirtual 218, 3, (3, 190, 11, 0), [1417, 93, 1415])) rfl (q := (mt_X11_poured, [.ref 542, .int r, .int s, .int z], [.int y31])) (mc_inv H (as := [.int r, .int s, .int z]) (rest := [.int y31]) rfl (by with_unfolding_all rfl) rfl rfl rfl) ⟨rfl, rfl⟩ (pc' := 107) rfl (mc_poured hd H r s z hr0 hr1 hz) (fun y35 e36 => ?_)
            rw [hs] at e36
            refine mc_cx hmi 2 (F' := (110, [(0, .ref 542), (1, .int r), (2, .int z), (3, .int f), (4, .int s)], [.int (Int8.ofInt 99).toInt32, .int (y31 + y35)], h, n, 0, 0)) (by with_unfolding_all rfl) ?_
            have e37 : (y31 + y35).toInt = ab_ri h 552 ((j : Int)) + PT h r.toInt (j : Int) z.toInt := mc_add e32 e36 (by omega) (by omega)
            refine mc_ci hmi (c := .gt) (tg := 117) (pc' := 113) rfl rfl rfl e37 (by decide) (fun (q38 : 99 < (ab_ri h 552 ((j : Int)) + PT h r.toInt (j : Int) z.toInt)) => ?_) (fun (q38 : (ab_ri h 552 ((j : Int)) + PT h r.toInt (j : Int) z.toInt) ≤ 99) => ?_)
            · exact bad
            · refine mc_cx hmi 2 (F' := (118, [(0, .ref 542), (1, .int r), (2, .int z), (3, .int f), (4, .int s)], [.int (Int32.ofInt 1)], h, n, 0, 0)) (by with_unfolding_all rfl) ?_
              refine fin _ (fun _ t ht => ?_)
              by_cases et : t = j
              · subst et; exact ⟨q30, q38⟩
              · exact hf' t (by omega)
        refine mc_cz hmi (c := .ne) (tg := 82) (pc' := 78) rfl rfl rfl rfl (fun (q39 : z.toInt ≠ 0) => ?_) (fun (q39 : z.toInt = 0) => ?_)
        · refine mc_cx hmi 1 (F' := (83, [(0, .ref 542), (1, .int r), (2, .int z), (3, .int f), (4, .int s)], [.int (Int32.ofInt 0), .int s, .int r, .ref 542, .int y23], h, n, 0, 0)) (by with_unfolding_all rfl) ?_
          exact key _ (by have : (Int32.ofInt 0).toInt = 0 := (by decide); omega)
        · refine mc_cx hmi 2 (F' := (83, [(0, .ref 542), (1, .int r), (2, .int z), (3, .int f), (4, .int s)], [.int (Int32.ofInt 1), .int s, .int r, .ref 542, .int y23], h, n, 0, 0)) (by with_unfolding_all rfl) ?_
          exact key _ (by have : (Int32.ofInt 1).toInt = 1 := (by decide); omega)
set_option maxRecDepth 100000 in
theorem pu_c {l : Launch} {G : ax_T} {d : Nat} {Q : Option Value → ax_H → Nat → Prop} {h : ax_H} {n : Nat} (hd : 2 ≤ d) (r z : Int32) (hr0 : 0 ≤ r.toInt) (hr1 : r.toInt ≤ 11) (hz : z.toInt = 0 ∨ z.toInt = 1) (hF : (∀ t : Nat, t < 7 → ab_ri h 551 (t : Int) + PT h r.toInt (t : Int) (1 - z.toInt) ≤ 99 ∧ ab_ri h 552 (t : Int) + PT h r.toInt (t : Int) z.toInt ≤ 99)) (kk : ∀ h' : ax_H, mc_HW h' n → (∀ (k' : Nat) (i' : Int), k' ≠ 551 → k' ≠ 552 → ab_rd h' k' i' = ab_rd h k' i') → mc_R l G mt_X11_pour d Q (192, [(0, .ref 542)], [], h', n, 0, 0)) : ∀ (c j : Nat) (h' : ax_H) (s : Int32), j + c = 7 → s.toInt = (j : Int) → mc_HW h' n → (∀ (k' : Nat) (i' : Int), k' ≠ 551 → k' ≠ 552 → ab_rd h' k' i' = ab_rd h k' i') → (∀ t : Nat, j ≤ t → t < 7 → ab_ri h' 551 (t : Int) = ab_ri h 551 (t : Int) ∧ ab_ri h' 552 (t : Int) = ab_ri h 552 (t : Int)) → mc_R l G mt_X11_pour d Q (135, [(0, .ref 542), (1, .int r), (2, .int z), (4, .int s)], [], h', n, 0, 0) := by
  have hmi : mt_X11_pour ∈ mt_prog := List.mem_of_getElem? mi_X11_pour
  intro c
  induction c with
  | zero =>
    intro j h' s hj hs H' hfr hsame
    refine mc_cx hmi 2 (F' := (139, [(0, .ref 542), (1, .int r), (2, .int z), (4, .int s)], [.int (Int8.ofInt 7).toInt32, .int s], h', n, 0, 0)) (by with_unfolding_all rfl) ?_
    refine mc_ci hmi (c := .ge) (tg := 192) (pc' := 142) rfl rfl rfl hs (by decide) (fun (q40 : 7 ≤ (j : Int)) => ?_) (fun (q40 : (j : Int) < 7) => ?_)
    · refine mc_lvs (lv' := [(0, .ref 542)]) (by simp) ?_
      exact kk h' H' hfr
    · exact absurd q40 (by omega)
  | succ c ih =>
    intro j h' s hj hs H' hfr hsame
    refine mc_cx hmi 2 (F' := (139, [(0, .ref 542), (1, .int r), (2, .int z), (4, .int s)], [.int (Int8.ofInt 7).toInt32, .int s], h', n, 0, 0)) (by with_unfolding_all rfl) ?_
    refine mc_ci hmi (c := .ge) (tg := 192) (pc' := 142) rfl rfl rfl hs (by decide) (fun (q41 : 7 ≤ (j : Int)) => ?_) (fun (q41 : (j : Int) < 7) => ?_)
    · exact absurd q41 (by omega)
    · have hp1 : 0 ≤ PT h r.toInt (j : Int) (1 - z.toInt) := (pw_bd (ab_ri h 550) (24 * r.toInt) (ab_ri h 549 r.toInt).toNat (j : Int) (decide (1 - z.toInt = 1)) (ab_ri h 549 r.toInt).toNat).1
      have hp2 : 0 ≤ PT h r.toInt (j : Int) (z.toInt) := (pw_bd (ab_ri h 550) (24 * r.toInt) (ab_ri h 549 r.toInt).toNat (j : Int) (decide (z.toInt = 1)) (ab_ri h 549 r.toInt).toNat).1
      have hfj := hF j (by omega)
      have hsj := hsame j (by omega) (by omega)
      refine mc_cx hmi 1 (F' := (143, [(0, .ref 542), (1, .int r), (2, .int z), (4, .int s)], [.ref 542], h', n, 0, 0)) (by with_unfolding_all rfl) ?_
      refine mc_getr hmi H' (k := 542) (c := 551) (pc' := 146) rfl rfl rfl rfl rfl ?_
      refine mc_cx hmi 2 (F' := (149, [(0, .ref 542), (1, .int r), (2, .int z), (4, .int s)], [.int s, .ref 551, .int s, .ref 551], h', n, 0, 0)) (by with_unfolding_all rfl) ?_
      refine mc_iald hmi H' (k := 551) (i := (j : Int)) (pc' := 150) rfl rfl rfl hs (by omega) (by omega) rfl (fun y42 e43 r44 r45 => ?_)
      rw [e43] at r44 r45
      refine mc_cx hmi 4 (F' := (155, [(0, .ref 542), (1, .int r), (2, .int z), (4, .int s)], [.int z, .int s, .int r, .ref 542, .int y42, .int s, .ref 551], h', n, 0, 0)) (by with_unfolding_all rfl) ?_
      rw [hsj.1] at e43 r44 r45
      have key : ∀ u : Int32, u.toInt = 1 - z.toInt → mc_R l G mt_X11_pour d Q (163, [(0, .ref 542), (1, .int r), (2, .int z), (4, .int s)], [.int u, .int s, .int r, .ref 542, .int y42, .int s, .ref 551], h', n, 0, 0) := by
        intro u hu
        refine mc_callP hmi (en := (163, .invokevirtual 218, 3, (3, 190, 11, 0), [1417, 93, 1415])) rfl (q := (mt_X11_poured, [.ref 542, .int r, .int s, .int u], [.int y42, .int s, .ref 551])) (mc_inv H' (as := [.int r, .int s, .int u]) (rest := [.int y42, .int s, .ref 551]) rfl (by with_unfolding_all rfl) rfl rfl rfl) ⟨rfl, rfl⟩ (pc' := 166) rfl (mc_poured hd H' r s u hr0 hr1 (by rw [hu]; omega)) (fun y46 e47 => ?_)
        rw [hu, hs, PT_of hfr] at e47
        refine mc_cx hmi 1 (F' := (167, [(0, .ref 542), (1, .int r), (2, .int z), (4, .int s)], [.int (y42 + y46), .int s, .ref 551], h', n, 0, 0)) (by with_unfolding_all rfl) ?_
        have e48 : (y42 + y46).toInt = ab_ri h 551 (j : Int) + PT h r.toInt (j : Int) (1 - z.toInt) := mc_add e43 e47 (by omega) (by omega)
        refine mc_iast hmi H' (k := 551) (i := (j : Int)) (pc' := 168) rfl rfl rfl hs (by omega) (by omega) (by rw [e48]; omega) (by rw [e48]; omega) rfl (fun h49 H50 w51 => ?_)
        refine mc_cx hmi 1 (F' := (169, [(0, .ref 542), (1, .int r), (2, .int z), (4, .int s)], [.ref 542], h49, n, 0, 0)) (by with_unfolding_all rfl) ?_
        refine mc_getr hmi H50 (k := 542) (c := 552) (pc' := 172) rfl rfl rfl rfl rfl ?_
        refine mc_cx hmi 2 (F' := (175, [(0, .ref 542), (1, .int r), (2, .int z), (4, .int s)], [.int s, .ref 552, .int s, .ref 552], h49, n, 0, 0)) (by with_unfolding_all rfl) ?_
        refine mc_iald hmi H50 (k := 552) (i := (j : Int)) (pc' := 176) rfl rfl rfl hs (by omega) (by omega) rfl (fun y52 e53 r54 r55 => ?_)
        rw [e53] at r54 r55
        refine mc_cx hmi 4 (F' := (181, [(0, .ref 542), (1, .int r), (2, .int z), (4, .int s)], [.int z, .int s, .int r, .ref 542, .int y52, .int s, .ref 552], h49, n, 0, 0)) (by with_unfolding_all rfl) ?_
        have g1 := mc_ri w51
        rw [g1, if_neg (fun q => absurd q.1 (by decide)), hsj.2] at e53 r54 r55
        have f1 : ∀ (k' : Nat) (i' : Int), k' ≠ 551 → k' ≠ 552 → ab_rd h49 k' i' = ab_rd h k' i' := fun k' i' a b => by rw [w51, if_neg (fun q => a q.1)]; exact hfr k' i' a b
        refine mc_callP hmi (en := (181, .invokevirtual 218, 3, (3, 190, 11, 0), [1417, 93, 1415])) rfl (q := (mt_X11_poured, [.ref 542, .int r, .int s, .int z], [.int y52, .int s, .ref 552])) (mc_inv H50 (as := [.int r, .int s, .int z]) (rest := [.int y52, .int s, .ref 552]) rfl (by with_unfolding_all rfl) rfl rfl rfl) ⟨rfl, rfl⟩ (pc' := 184) rfl (mc_poured hd H50 r s z hr0 hr1 hz) (fun y56 e57 => ?_)
        rw [hs, PT_of f1] at e57
        refine mc_cx hmi 1 (F' := (185, [(0, .ref 542), (1, .int r), (2, .int z), (4, .int s)], [.int (y52 + y56), .int s, .ref 552], h49, n, 0, 0)) (by with_unfolding_all rfl) ?_
        have e58 : (y52 + y56).toInt = ab_ri h 552 (j : Int) + PT h r.toInt (j : Int) z.toInt := mc_add e53 e57 (by omega) (by omega)
        refine mc_iast hmi H50 (k := 552) (i := (j : Int)) (pc' := 186) rfl rfl rfl hs (by omega) (by omega) (by rw [e58]; omega) (by rw [e58]; omega) rfl (fun h59 H60 w61 => ?_)
        refine mc_cx hmi 2 (F' := (135, [(4, .int (s + Int32.ofInt 1)), (0, .ref 542), (1, .int r), (2, .int z)], [], h59, n, 0, 0)) (by with_unfolding_all rfl) ?_
        have e62 : (s + Int32.ofInt 1).toInt = (j : Int) + 1 := mc_add hs (by decide) (by omega) (by omega)
        have g2 := mc_ri w61
        refine mc_lvs (lv' := [(0, .ref 542), (1, .int r), (2, .int z), (4, .int (s + Int32.ofInt 1))]) (by simp) ?_
        refine ih (j + 1) h59 (s + Int32.ofInt 1) (by omega) (by rw [e62]; omega) H60 (fun k' i' a b => by rw [w61, if_neg (fun q => b q.1)]; exact f1 k' i' a b) (fun t ht1 ht2 => ?_)
        rw [g2, g1, if_neg (fun q => absurd q.1 (by decide)), if_neg (fun q => by have := q.2; omega), g2, g1, if_neg (fun q => by have := q.2; omega), if_neg (fun q => absurd q.1 (by decide))]
        exact hsame t (by omega) ht2
      refine mc_cz hmi (c := .ne) (tg := 162) (pc' := 158) rfl rfl rfl rfl (fun (q63 : z.toInt ≠ 0) => ?_) (fun (q63 : z.toInt = 0) => ?_)
      · refine mc_cx hmi 1 (F' := (163, [(0, .ref 542), (1, .int r), (2, .int z), (4, .int s)], [.int (Int32.ofInt 0), .int s, .int r, .ref 542, .int y42, .int s, .ref 551], h', n, 0, 0)) (by with_unfolding_all rfl) ?_
        exact key _ (by have : (Int32.ofInt 0).toInt = 0 := (by decide); omega)
      · refine mc_cx hmi 2 (F' := (163, [(0, .ref 542), (1, .int r), (2, .int z), (4, .int s)], [.int (Int32.ofInt 1), .int s, .int r, .ref 542, .int y42, .int s, .ref 551], h', n, 0, 0)) (by with_unfolding_all rfl) ?_
        exact key _ (by have : (Int32.ofInt 1).toInt = 1 := (by decide); omega)
set_option maxRecDepth 100000 in
theorem ob_loop {l : Launch} {G : ax_T} {d : Nat} {h : ax_H} {n : Nat} (H : mc_HW h n) : ∀ (c j : Nat) (a s : Int32), j + c = 7 → s.toInt = (j : Int) → 0 ≤ a.toInt → a.toInt ≤ 198 * (j : Int) → mc_R l G mt_X11_onBoard d (mc_P h n fun _ => True) (4, [(0, .ref 542), (1, .int a), (2, .int s)], [], h, n, 0, 0) := by
  have hmi : mt_X11_onBoard ∈ mt_prog := List.mem_of_getElem? mi_X11_onBoard
  intro c
  induction c with
  | zero =>
    intro j a s hj hs ha0 ha1
    refine mc_cx hmi 2 (F' := (7, [(0, .ref 542), (1, .int a), (2, .int s)], [.int (Int8.ofInt 7).toInt32, .int s], h, n, 0, 0)) (by with_unfolding_all rfl) ?_
    refine mc_ci hmi (c := .ge) (tg := 32) (pc' := 10) rfl rfl rfl hs (by decide) (fun (q64 : 7 ≤ (j : Int)) => ?_) (fun (q64 : (j : Int) < 7) => ?_)
    · refine mc_cx hmi 1 (F' := (33, [(0, .ref 542), (1, .int a), (2, .int s)], [.int a], h, n, 0, 0)) (by with_unfolding_all rfl) ?_
      exact mc_ret hmi rfl rfl rfl ⟨rfl, rfl, _, rfl, trivial⟩
    · exact absurd q64 (by omega)
  | succ c ih =>
    intro j a s hj hs ha0 ha1
    refine mc_cx hmi 2 (F' := (7, [(0, .ref 542), (1, .int a), (2, .int s)], [.int (Int8.ofInt 7).toInt32, .int s], h, n, 0, 0)) (by with_unfolding_all rfl) ?_
    refine mc_ci hmi (c := .ge) (tg := 32) (pc' := 10) rfl rfl rfl hs (by decide) (fun (q65 : 7 ≤ (j : Int)) => ?_) (fun (q65 : (j : Int) < 7) => ?_)
    · exact absurd q65 (by omega)
    · refine mc_cx hmi 2 (F' := (12, [(0, .ref 542), (1, .int a), (2, .int s)], [.ref 542, .int a], h, n, 0, 0)) (by with_unfolding_all rfl) ?_
      refine mc_getr hmi H (k := 542) (c := 551) (pc' := 15) rfl rfl rfl rfl rfl ?_
      refine mc_cx hmi 1 (F' := (16, [(0, .ref 542), (1, .int a), (2, .int s)], [.int s, .ref 551, .int a], h, n, 0, 0)) (by with_unfolding_all rfl) ?_
      refine mc_iald hmi H (k := 551) (i := (j : Int)) (pc' := 17) rfl rfl rfl hs (by omega) (by omega) rfl (fun y66 e67 r68 r69 => ?_)
      rw [e67] at r68 r69
      refine mc_cx hmi 1 (F' := (18, [(0, .ref 542), (1, .int a), (2, .int s)], [.ref 542, .int y66, .int a], h, n, 0, 0)) (by with_unfolding_all rfl) ?_
      refine mc_getr hmi H (k := 542) (c := 552) (pc' := 21) rfl rfl rfl rfl rfl ?_
      refine mc_cx hmi 1 (F' := (22, [(0, .ref 542), (1, .int a), (2, .int s)], [.int s, .ref 552, .int y66, .int a], h, n, 0, 0)) (by with_unfolding_all rfl) ?_
      refine mc_iald hmi H (k := 552) (i := (j : Int)) (pc' := 23) rfl rfl rfl hs (by omega) (by omega) rfl (fun y70 e71 r72 r73 => ?_)
      rw [e71] at r72 r73
      refine mc_cx hmi 5 (F' := (4, [(2, .int (s + Int32.ofInt 1)), (1, .int (a + (y66 + y70))), (0, .ref 542)], [], h, n, 0, 0)) (by with_unfolding_all rfl) ?_
      have e74 : (y66 + y70).toInt = ab_ri h 551 ((j : Int)) + ab_ri h 552 ((j : Int)) := mc_add e67 e71 (by omega) (by omega)
      have e75 : (a + (y66 + y70)).toInt = a.toInt + (ab_ri h 551 ((j : Int)) + ab_ri h 552 ((j : Int))) := mc_add rfl e74 (by omega) (by omega)
      have e76 : (s + Int32.ofInt 1).toInt = (j : Int) + 1 := mc_add hs (by decide) (by omega) (by omega)
      refine mc_lvs (lv' := [(0, .ref 542), (1, .int (a + (y66 + y70))), (2, .int (s + Int32.ofInt 1))]) (by simp) ?_
      exact ih (j + 1) (a + (y66 + y70)) (s + Int32.ofInt 1) (by omega) (by rw [e76]; omega) (by rw [e75]; omega) (by rw [e75]; omega)
set_option maxRecDepth 100000 in
theorem mc_onBoard {l : Launch} {G : ax_T} {d : Nat} (hd : 1 ≤ d) {h : ax_H} {n : Nat} (H : mc_HW h n) : mc_M l G d mt_X11_onBoard [.ref 542] h n (mc_P h n fun _ => True) := by
  obtain ⟨d, rfl⟩ : ∃ e, d = e + 1 := ⟨d - 1, by omega⟩
  have hmi : mt_X11_onBoard ∈ mt_prog := List.mem_of_getElem? mi_X11_onBoard
  refine mc_to hmi rfl ?_
  show mc_R _ _ _ _ _ (0, [(0, .ref 542)], [], h, n, 0, 0)
  refine mc_cx hmi 4 (F' := (4, [(2, .int (Int32.ofInt 0)), (1, .int (Int32.ofInt 0)), (0, .ref 542)], [], h, n, 0, 0)) (by with_unfolding_all rfl) ?_
  refine mc_lvs (lv' := [(0, .ref 542), (1, .int (Int32.ofInt 0)), (2, .int (Int32.ofInt 0))]) (by simp) ?_
  exact ob_loop H 7 0 _ _ rfl rfl (by decide) (by decide)
set_option maxRecDepth 100000 in
theorem mc_pour {l : Launch} {G : ax_T} {d : Nat} (hd : 3 ≤ d) {h : ax_H} {n : Nat} (H : mc_HW h n) (r z : Int32) (hz : z = 0 ∨ z = 1) : mc_M l G d mt_X11_pour [.ref 542, .int r, .int z] h n (fun r' h' n' => n' = n ∧ mc_HW h' n ∧ (∃ y : Int32, r' = some (.int y)) ∧ (∀ (k' : Nat) (i' : Int), k' ≠ 551 → k' ≠ 552 → ab_rd h' k' i' = ab_rd h k' i')) := by
  obtain ⟨d, rfl⟩ : ∃ e, d = e + 1 := ⟨d - 1, by omega⟩
  have hmi : mt_X11_pour ∈ mt_prog := List.mem_of_getElem? mi_X11_pour
  have hz' : z.toInt = 0 ∨ z.toInt = 1 := by rcases hz with rfl | rfl <;> decide
  refine mc_to hmi rfl ?_
  show mc_R _ _ _ _ _ (0, [(0, .ref 542), (1, .int r), (2, .int z)], [], h, n, 0, 0)
  refine mc_cx hmi 1 (F' := (1, [(0, .ref 542), (1, .int r), (2, .int z)], [.int r], h, n, 0, 0)) (by with_unfolding_all rfl) ?_
  refine mc_callP hmi (en := (1, .invokestatic 142, 3, (3, 162, 0, 0), [1314, 1313])) rfl (q := (mt_X11_isRow, [.int r], [])) (by with_unfolding_all rfl) ⟨rfl, rfl⟩ (pc' := 4) rfl (mc_isRow (by omega) r _ _) (fun y77 e78 => ?_)
  refine mc_cz hmi (c := .ne) (tg := 10) (pc' := 7) rfl rfl rfl rfl (fun (q79 : y77.toInt ≠ 0) => ?_) (fun (q79 : y77.toInt = 0) => ?_)
  · have hr : 0 ≤ r.toInt ∧ r.toInt ≤ 11 := by omega
    refine mc_cx hmi 2 (F' := (12, [(3, .int (Int32.ofInt 0)), (0, .ref 542), (1, .int r), (2, .int z)], [], h, n, 0, 0)) (by with_unfolding_all rfl) ?_
    refine mc_lvs (lv' := [(0, .ref 542), (1, .int r), (2, .int z), (3, .int (Int32.ofInt 0))]) (by simp) ?_
    refine pu_a H r z hr.1 hr.2 (fun y => ⟨rfl, H, ⟨_, rfl⟩, fun _ _ _ _ => rfl⟩) ?_ _ 0 _ (Nat.zero_add _) rfl
    refine mc_cx hmi 4 (F' := (52, [(4, .int (Int32.ofInt 0)), (3, .int (Int32.ofInt 1)), (0, .ref 542), (1, .int r), (2, .int z)], [], h, n, 0, 0)) (by with_unfolding_all rfl) ?_
    refine mc_lvs (lv' := [(0, .ref 542), (1, .int r), (2, .int z), (3, .int (Int32.ofInt 1)), (4, .int (Int32.ofInt 0))]) (by simp) ?_
    refine pu_b (by omega) H r z hr.1 hr.2 hz' (fun f hf => ?_) 7 0 _ _ rfl rfl (fun _ t ht => absurd ht (Nat.not_lt_zero t))
    refine mc_cx hmi 1 (F' := (126, [(0, .ref 542), (1, .int r), (2, .int z), (3, .int f)], [.int f], h, n, 0, 0)) (by with_unfolding_all rfl) ?_
    refine mc_cz hmi (c := .ne) (tg := 132) (pc' := 129) rfl rfl rfl rfl (fun (q80 : f.toInt ≠ 0) => ?_) (fun (q80 : f.toInt = 0) => ?_)
    · refine mc_cx hmi 2 (F' := (135, [(4, .int (Int32.ofInt 0)), (0, .ref 542), (1, .int r), (2, .int z), (3, .int f)], [], h, n, 0, 0)) (by with_unfolding_all rfl) ?_
      refine mc_lvs (lv' := [(0, .ref 542), (1, .int r), (2, .int z), (4, .int (Int32.ofInt 0))]) (by simp) ?_
      refine pu_c (h := h) (by omega) r z hr.1 hr.2 hz' (hf q80) (fun h2 H2 f2 => ?_) 7 0 h _ rfl rfl H (fun _ _ _ _ => rfl) (fun t _ _ => ⟨rfl, rfl⟩)
      refine mc_cx hmi 1 (F' := (193, [(0, .ref 542)], [.ref 542], h2, n, 0, 0)) (by with_unfolding_all rfl) ?_
      refine mc_callP hmi (en := (193, .invokevirtual 222, 3, (3, 188, 11, 0), [1421, 94, 1419])) rfl (q := (mt_X11_onBoard, [.ref 542], [])) (mc_inv H2 (as := []) (rest := []) rfl (by with_unfolding_all rfl) rfl rfl rfl) ⟨rfl, rfl⟩ (pc' := 196) rfl (mc_onBoard (by omega) H2) (fun y81 e82 => ?_)
      exact mc_ret hmi rfl rfl rfl ⟨rfl, H2, ⟨_, rfl⟩, f2⟩
    · refine mc_cx hmi 1 (F' := (131, [(0, .ref 542), (1, .int r), (2, .int z), (3, .int f)], [.int (Int8.ofInt (-104)).toInt32], h, n, 0, 0)) (by with_unfolding_all rfl) ?_
      exact mc_ret hmi rfl rfl rfl ⟨rfl, H, ⟨_, rfl⟩, fun _ _ _ _ => rfl⟩
  · refine mc_cx hmi 1 (F' := (9, [(0, .ref 542), (1, .int r), (2, .int z)], [.int (Int8.ofInt (-101)).toInt32], h, n, 0, 0)) (by with_unfolding_all rfl) ?_
    exact mc_ret hmi rfl rfl rfl ⟨rfl, H, ⟨_, rfl⟩, fun _ _ _ _ => rfl⟩
set_option maxRecDepth 100000 in
theorem mc_lift {l : Launch} {G : ax_T} {d : Nat} (hd : 3 ≤ d) {h : ax_H} {n : Nat} (H : mc_HW h n) (r : Int32) : mc_M l G d mt_X11_lift [.ref 542, .int r] h n (fun r' h' n' => n' = n ∧ mc_HW h' n ∧ (∃ y : Int32, r' = some (.int y)) ∧ (∀ (k' : Nat) (i' : Int), k' ≠ 549 → k' ≠ 550 → ab_rd h' k' i' = ab_rd h k' i')) := by
  obtain ⟨d, rfl⟩ : ∃ e, d = e + 1 := ⟨d - 1, by omega⟩
  have hmi : mt_X11_lift ∈ mt_prog := List.mem_of_getElem? mi_X11_lift
  refine mc_to hmi rfl ?_
  show mc_R _ _ _ _ _ (0, [(0, .ref 542), (1, .int r)], [], h, n, 0, 0)
  refine mc_cx hmi 1 (F' := (1, [(0, .ref 542), (1, .int r)], [.int r], h, n, 0, 0)) (by with_unfolding_all rfl) ?_
  refine mc_callP hmi (en := (1, .invokestatic 142, 3, (3, 162, 0, 0), [1314, 1313])) rfl (q := (mt_X11_isRow, [.int r], [])) (by with_unfolding_all rfl) ⟨rfl, rfl⟩ (pc' := 4) rfl (mc_isRow (by omega) r _ _) (fun y83 e84 => ?_)
  refine mc_cz hmi (c := .ne) (tg := 10) (pc' := 7) rfl rfl rfl rfl (fun (q85 : y83.toInt ≠ 0) => ?_) (fun (q85 : y83.toInt = 0) => ?_)
  · have hr : 0 ≤ r.toInt ∧ r.toInt ≤ 11 := by omega
    refine mc_cx hmi 6 (F' := (17, [(4, .int (Int32.ofInt 0)), (3, .int (Int32.ofInt 0)), (2, .int (Int32.ofInt 0)), (0, .ref 542), (1, .int r)], [], h, n, 0, 0)) (by with_unfolding_all rfl) ?_
    refine mc_lvs (lv' := [(0, .ref 542), (1, .int r), (2, .int (Int32.ofInt 0)), (3, .int (Int32.ofInt 0)), (4, .int (Int32.ofInt 0))]) (by simp) ?_
    refine lf_1 H r (fun a b ha hb => ?_) 7 0 _ _ _ rfl rfl rfl (by decide) (by decide) (by decide) (by decide)
    refine mc_cx hmi 1 (F' := (51, [(0, .ref 542), (1, .int r), (2, .int a), (3, .int b)], [.int b], h, n, 0, 0)) (by with_unfolding_all rfl) ?_
    refine mc_cz hmi (c := .gt) (tg := 64) (pc' := 54) rfl rfl rfl rfl (fun (q86 : 0 < b.toInt) => ?_) (fun (q86 : b.toInt ≤ 0) => ?_)
    · refine mc_cx hmi 1 (F' := (66, [(0, .ref 542), (1, .int r), (2, .int a), (3, .int b)], [.int (Int8.ofInt (-103)).toInt32], h, n, 0, 0)) (by with_unfolding_all rfl) ?_
      exact mc_ret hmi rfl rfl rfl ⟨rfl, H, ⟨_, rfl⟩, fun _ _ _ _ => rfl⟩
    · refine mc_cx hmi 1 (F' := (55, [(0, .ref 542), (1, .int r), (2, .int a), (3, .int b)], [.int a], h, n, 0, 0)) (by with_unfolding_all rfl) ?_
      refine mc_cz hmi (c := .eq) (tg := 64) (pc' := 58) rfl rfl rfl ha (fun (q87 : sm (fun s => ab_ri h 551 (s : Int)) 7 = 0) => ?_) (fun (q87 : sm (fun s => ab_ri h 551 (s : Int)) 7 ≠ 0) => ?_)
      · refine mc_cx hmi 1 (F' := (66, [(0, .ref 542), (1, .int r), (2, .int a), (3, .int b)], [.int (Int8.ofInt (-103)).toInt32], h, n, 0, 0)) (by with_unfolding_all rfl) ?_
        exact mc_ret hmi rfl rfl rfl ⟨rfl, H, ⟨_, rfl⟩, fun _ _ _ _ => rfl⟩
      · refine mc_cx hmi 2 (F' := (61, [(0, .ref 542), (1, .int r), (2, .int a), (3, .int b)], [.int (Int8.ofInt 24).toInt32, .int a], h, n, 0, 0)) (by with_unfolding_all rfl) ?_
        refine mc_ci hmi (c := .le) (tg := 67) (pc' := 64) rfl rfl rfl ha (by decide) (fun (q88 : sm (fun s => ab_ri h 551 (s : Int)) 7 ≤ 24) => ?_) (fun (q88 : 24 < sm (fun s => ab_ri h 551 (s : Int)) 7) => ?_)
        · refine mc_cx hmi 4 (F' := (74, [(5, .int (Int8.ofInt 6).toInt32), (4, .int (Int32.ofInt 0)), (0, .ref 542), (1, .int r), (2, .int a), (3, .int b)], [], h, n, 0, 0)) (by with_unfolding_all rfl) ?_
          refine mc_lvs (lv' := [(0, .ref 542), (1, .int r), (4, .int (Int32.ofInt 0)), (5, .int (Int8.ofInt 6).toInt32)]) (by simp) ?_
          refine lf_3 (h := h) r hr.1 hr.2 (tot := sm (fun s => ab_ri h 551 (s : Int)) 7) q88 (fun h2 z2 H2 f2 e2 n2 => ?_) 7 h _ _ H (fun _ _ _ => rfl) (by decide) (by decide) (by decide) (by show 0 + _ = _; omega)
          rw [e2] at n2
          refine mc_cx hmi 1 (F' := (124, [(0, .ref 542), (1, .int r), (4, .int z2)], [.ref 542], h2, n, 0, 0)) (by with_unfolding_all rfl) ?_
          refine mc_getr hmi H2 (k := 542) (c := 549) (pc' := 127) rfl rfl rfl rfl rfl ?_
          refine mc_cx hmi 2 (F' := (130, [(0, .ref 542), (1, .int r), (4, .int z2)], [.int z2, .int r, .ref 549], h2, n, 0, 0)) (by with_unfolding_all rfl) ?_
          refine mc_iast hmi H2 (k := 549) (i := r.toInt) (pc' := 131) rfl rfl rfl rfl (by omega) (by omega) (by rw [e2]; omega) (by rw [e2]; omega) rfl (fun h89 H90 w91 => ?_)
          refine mc_cx hmi 1 (F' := (133, [(0, .ref 542), (1, .int r), (4, .int z2)], [.int z2], h89, n, 0, 0)) (by with_unfolding_all rfl) ?_
          exact mc_ret hmi rfl rfl rfl ⟨rfl, H90, ⟨_, rfl⟩, fun k' i' a b => by rw [w91, if_neg (fun q => a q.1)]; exact f2 k' i' b⟩
        · refine mc_cx hmi 1 (F' := (66, [(0, .ref 542), (1, .int r), (2, .int a), (3, .int b)], [.int (Int8.ofInt (-103)).toInt32], h, n, 0, 0)) (by with_unfolding_all rfl) ?_
          exact mc_ret hmi rfl rfl rfl ⟨rfl, H, ⟨_, rfl⟩, fun _ _ _ _ => rfl⟩
  · refine mc_cx hmi 1 (F' := (9, [(0, .ref 542), (1, .int r)], [.int (Int8.ofInt (-101)).toInt32], h, n, 0, 0)) (by with_unfolding_all rfl) ?_
    exact mc_ret hmi rfl rfl rfl ⟨rfl, H, ⟨_, rfl⟩, fun _ _ _ _ => rfl⟩
end
section
/-! ===== by hand: what fillTo calls, in the reference (ways printed by wip/hand/h_fill.py) ===== -/
set_option maxRecDepth 100000 in
theorem mc_rem {x y : Int32} {a b : Int} (hx : x.toInt = a) (hy : y.toInt = b) (h0 : 0 ≤ a) (h1 : 1 ≤ b) : (x - x / y * y).toInt = a % b := by
  rw [ab_rem_e (by omega), hx, hy, Int.tmod_eq_emod_of_nonneg h0]
set_option maxRecDepth 100000 in
theorem mc_irem {l : Launch} {G : ax_T} {mi : ax_MI} {d : Nat} {Q : Option Value → ax_H → Nat → Prop} {pc pc' len : Nat} {lv : List (Nat × Value)} {st : List Value} {h : ax_H} {n : Nat} (hmi : mi ∈ mt_prog) {pe : ax_PE} {hs : List Nat} {x y : Int32} (ha : ax_at mi.2.2.2.2.2.2.2.2 pc = some (pc, .irem, len, pe, hs)) (hy : y.toInt ≠ 0) (hp : pc + 1 = pc') (hR : mc_R l G mi d Q (pc', lv, .int (x - x / y * y) :: st, h, n, 0, 0)) : mc_R l G mi d Q (pc, lv, .int y :: .int x :: st, h, n, 0, 0) := by
  subst hp
  refine mc_stp hmi ha ?_ hR
  have : decide (y = 0) = false := decide_eq_false (fun e => hy (by rw [e]; rfl))
  simp only [ax_step, ax_s_div, this, cond_false]
set_option maxRecDepth 100000 in
theorem tk_571 {l : Launch} {G : ax_T} {d : Nat} {h : ax_H} {n : Nat} (H : mc_HW h n) (b s i : Int32) (hb : 0 ≤ b.toInt) (hi : 0 ≤ i.toInt) (his : i.toInt < s.toInt) (hN : b.toInt + s.toInt ≤ 21) : ∀ (c : Nat) (k : Int32), k.toInt + (c : Int) = s.toInt → i.toInt < k.toInt → mc_R l G mt_X11_isTaken d (mc_P h n fun y => y.toInt = if tk (ab_ri h 571) (ab_ri h 571 (b.toInt + i.toInt)) c (b.toInt + k.toInt) then 1 else 0) (5, [(0, .ref 571), (1, .int b), (2, .int s), (3, .int i), (4, .int k)], [], h, n, 0, 0) := by
  have hmi : mt_X11_isTaken ∈ mt_prog := List.mem_of_getElem? mi_X11_isTaken
  intro c
  induction c with
  | zero =>
    intro k hk hik
    refine mc_cx hmi 2 (F' := (8, [(0, .ref 571), (1, .int b), (2, .int s), (3, .int i), (4, .int k)], [.int s, .int k], h, n, 0, 0)) (by with_unfolding_all rfl) ?_
    refine mc_ci hmi (c := .ge) (tg := 31) (pc' := 11) rfl rfl rfl rfl rfl (fun (q1 : s.toInt ≤ k.toInt) => ?_) (fun (q1 : k.toInt < s.toInt) => ?_)
    · refine mc_cx hmi 2 (F' := (34, [(0, .ref 571), (1, .int b), (2, .int s), (3, .int i), (4, .int k)], [.int s, .int k], h, n, 0, 0)) (by with_unfolding_all rfl) ?_
      refine mc_ci hmi (c := .ge) (tg := 55) (pc' := 37) rfl rfl rfl rfl rfl (fun (q2 : s.toInt ≤ k.toInt) => ?_) (fun (q2 : k.toInt < s.toInt) => ?_)
      · refine mc_cx hmi 1 (F' := (56, [(0, .ref 571), (1, .int b), (2, .int s), (3, .int i), (4, .int k)], [.int (Int32.ofInt 0)], h, n, 0, 0)) (by with_unfolding_all rfl) ?_
        exact mc_ret hmi rfl rfl rfl ⟨rfl, rfl, _, rfl, rfl⟩
      · exact absurd q2 (by omega)
    · exact absurd q1 (by omega)
  | succ c ih =>
    intro k hk hik
    refine mc_cx hmi 2 (F' := (8, [(0, .ref 571), (1, .int b), (2, .int s), (3, .int i), (4, .int k)], [.int s, .int k], h, n, 0, 0)) (by with_unfolding_all rfl) ?_
    refine mc_ci hmi (c := .ge) (tg := 31) (pc' := 11) rfl rfl rfl rfl rfl (fun (q3 : s.toInt ≤ k.toInt) => ?_) (fun (q3 : k.toInt < s.toInt) => ?_)
    · exact absurd q3 (by omega)
    · refine mc_cx hmi 4 (F' := (16, [(0, .ref 571), (1, .int b), (2, .int s), (3, .int i), (4, .int k)], [.int (b + k), .ref 571], h, n, 0, 0)) (by with_unfolding_all rfl) ?_
      have e4 : (b + k).toInt = b.toInt + k.toInt := mc_add rfl rfl (by omega) (by omega)
      refine mc_iald hmi H (k := 571) (i := (b.toInt + k.toInt)) (pc' := 17) rfl rfl rfl e4 (by omega) (by omega) rfl (fun y5 e6 r7 r8 => ?_)
      rw [e6] at r7 r8
      refine mc_cx hmi 4 (F' := (21, [(0, .ref 571), (1, .int b), (2, .int s), (3, .int i), (4, .int k)], [.int (b + i), .ref 571, .int y5], h, n, 0, 0)) (by with_unfolding_all rfl) ?_
      have e9 : (b + i).toInt = b.toInt + i.toInt := mc_add rfl rfl (by omega) (by omega)
      refine mc_iald hmi H (k := 571) (i := (b.toInt + i.toInt)) (pc' := 22) rfl rfl rfl e9 (by omega) (by omega) rfl (fun y10 e11 r12 r13 => ?_)
      rw [e11] at r12 r13
      refine mc_ci hmi (c := .ne) (tg := 31) (pc' := 25) rfl rfl rfl e6 e11 (fun (q14 : ab_ri h 571 ((b.toInt + k.toInt)) ≠ ab_ri h 571 ((b.toInt + i.toInt))) => ?_) (fun (q14 : ab_ri h 571 ((b.toInt + k.toInt)) = ab_ri h 571 ((b.toInt + i.toInt))) => ?_)
      · refine mc_cx hmi 2 (F' := (34, [(0, .ref 571), (1, .int b), (2, .int s), (3, .int i), (4, .int k)], [.int s, .int k], h, n, 0, 0)) (by with_unfolding_all rfl) ?_
        refine mc_ci hmi (c := .ge) (tg := 55) (pc' := 37) rfl rfl rfl rfl rfl (fun (q15 : s.toInt ≤ k.toInt) => ?_) (fun (q15 : k.toInt < s.toInt) => ?_)
        · exact absurd q15 (by omega)
        · refine mc_cx hmi 4 (F' := (42, [(0, .ref 571), (1, .int b), (2, .int s), (3, .int i), (4, .int k)], [.int (b + k), .ref 571], h, n, 0, 0)) (by with_unfolding_all rfl) ?_
          have e16 : (b + k).toInt = b.toInt + k.toInt := mc_add rfl rfl (by omega) (by omega)
          refine mc_iald hmi H (k := 571) (i := (b.toInt + k.toInt)) (pc' := 43) rfl rfl rfl e16 (by omega) (by omega) rfl (fun y17 e18 r19 r20 => ?_)
          rw [e18] at r19 r20
          refine mc_cx hmi 4 (F' := (47, [(0, .ref 571), (1, .int b), (2, .int s), (3, .int i), (4, .int k)], [.int (b + i), .ref 571, .int y17], h, n, 0, 0)) (by with_unfolding_all rfl) ?_
          have e21 : (b + i).toInt = b.toInt + i.toInt := mc_add rfl rfl (by omega) (by omega)
          refine mc_iald hmi H (k := 571) (i := (b.toInt + i.toInt)) (pc' := 48) rfl rfl rfl e21 (by omega) (by omega) rfl (fun y22 e23 r24 r25 => ?_)
          rw [e23] at r24 r25
          refine mc_ci hmi (c := .le) (tg := 55) (pc' := 51) rfl rfl rfl e18 e23 (fun (q26 : ab_ri h 571 ((b.toInt + k.toInt)) ≤ ab_ri h 571 ((b.toInt + i.toInt))) => ?_) (fun (q26 : ab_ri h 571 ((b.toInt + i.toInt)) < ab_ri h 571 ((b.toInt + k.toInt))) => ?_)
          · refine mc_cx hmi 1 (F' := (56, [(0, .ref 571), (1, .int b), (2, .int s), (3, .int i), (4, .int k)], [.int (Int32.ofInt 0)], h, n, 0, 0)) (by with_unfolding_all rfl) ?_
            refine mc_ret hmi rfl rfl (mc_rb (by decide)) ⟨rfl, rfl, _, rfl, ?_⟩
            show _ = if (if ab_ri h 571 (b.toInt + k.toInt) = ab_ri h 571 (b.toInt + i.toInt) then _ else decide (ab_ri h 571 (b.toInt + i.toInt) < ab_ri h 571 (b.toInt + k.toInt))) = true then (1 : Int) else 0
            rw [if_neg q14, decide_eq_false (by omega)]
            rfl
          · refine mc_cx hmi 2 (F' := (56, [(0, .ref 571), (1, .int b), (2, .int s), (3, .int i), (4, .int k)], [.int (Int32.ofInt 1)], h, n, 0, 0)) (by with_unfolding_all rfl) ?_
            refine mc_ret hmi rfl rfl (mc_rb (by decide)) ⟨rfl, rfl, _, rfl, ?_⟩
            show _ = if (if ab_ri h 571 (b.toInt + k.toInt) = ab_ri h 571 (b.toInt + i.toInt) then _ else decide (ab_ri h 571 (b.toInt + i.toInt) < ab_ri h 571 (b.toInt + k.toInt))) = true then (1 : Int) else 0
            rw [if_neg q14, decide_eq_true (by omega)]
            rfl
      · refine mc_cx hmi 2 (F' := (5, [(4, .int (k + Int32.ofInt 1)), (0, .ref 571), (1, .int b), (2, .int s), (3, .int i)], [], h, n, 0, 0)) (by with_unfolding_all rfl) ?_
        have e27 : (k + Int32.ofInt 1).toInt = k.toInt + 1 := mc_add rfl (by decide) (by omega) (by omega)
        refine mc_lvs (lv' := [(0, .ref 571), (1, .int b), (2, .int s), (3, .int i), (4, .int (k + Int32.ofInt 1))]) (by simp) ?_
        refine (show (if tk (ab_ri h 571) (ab_ri h 571 (b.toInt + i.toInt)) (c + 1) (b.toInt + k.toInt) then (1 : Int) else 0) = (if tk (ab_ri h 571) (ab_ri h 571 (b.toInt + i.toInt)) c (b.toInt + (k + Int32.ofInt 1).toInt) then (1 : Int) else 0) from ?_) ▸ ih (k + Int32.ofInt 1) (by rw [e27]; omega) (by rw [e27]; omega)
        rw [e27, show tk (ab_ri h 571) (ab_ri h 571 (b.toInt + i.toInt)) (c + 1) (b.toInt + k.toInt) = tk (ab_ri h 571) (ab_ri h 571 (b.toInt + i.toInt)) c (b.toInt + k.toInt + 1) from if_pos q14, Int.add_assoc]
set_option maxRecDepth 100000 in
theorem mc_isTaken_571 {l : Launch} {G : ax_T} {d : Nat} (hd : 1 ≤ d) {h : ax_H} {n : Nat} (H : mc_HW h n) (b s i : Int32) (hb : 0 ≤ b.toInt) (hi : 0 ≤ i.toInt) (his : i.toInt < s.toInt) (hN : b.toInt + s.toInt ≤ 21) : mc_M l G d mt_X11_isTaken [.ref 571, .int b, .int s, .int i] h n (mc_P h n fun y => y.toInt = if tk (ab_ri h 571) (ab_ri h 571 (b.toInt + i.toInt)) (s.toInt - i.toInt - 1).toNat (b.toInt + i.toInt + 1) then 1 else 0) := by
  obtain ⟨d, rfl⟩ : ∃ e, d = e + 1 := ⟨d - 1, by omega⟩
  have hmi : mt_X11_isTaken ∈ mt_prog := List.mem_of_getElem? mi_X11_isTaken
  refine mc_to hmi rfl ?_
  show mc_R _ _ _ _ _ (0, [(0, .ref 571), (1, .int b), (2, .int s), (3, .int i)], [], h, n, 0, 0)
  refine mc_cx hmi 4 (F' := (5, [(4, .int (i + (Int32.ofInt 1))), (0, .ref 571), (1, .int b), (2, .int s), (3, .int i)], [], h, n, 0, 0)) (by with_unfolding_all rfl) ?_
  have e28 : (i + (Int32.ofInt 1)).toInt = i.toInt + 1 := mc_add rfl (by decide) (by omega) (by omega)
  refine mc_lvs (lv' := [(0, .ref 571), (1, .int b), (2, .int s), (3, .int i), (4, .int (i + (Int32.ofInt 1)))]) (by simp) ?_
  refine (show b.toInt + (i + (Int32.ofInt 1)).toInt = b.toInt + i.toInt + 1 by rw [e28]; omega) ▸ tk_571 H b s i hb hi his hN (s.toInt - i.toInt - 1).toNat (i + (Int32.ofInt 1)) (by rw [e28]; omega) (by rw [e28]; omega)
set_option maxRecDepth 100000 in
theorem wo_loop {l : Launch} {G : ax_T} {d : Nat} {h : ax_H} {n : Nat} (hd : 1 ≤ d) (H : mc_HW h n) (f s : Int32) (hf : f.toInt = 0) (hs : s.toInt ≤ 21) (h13 : ∀ j : Int, 0 ≤ j → j < s.toInt → ab_ri h 571 j ≤ 13) : ∀ (c j : Nat) (a i : Int32), (j : Int) + (c : Int) = s.toInt → i.toInt = (j : Int) → -1000000 * (j : Int) ≤ a.toInt → a.toInt ≤ 1000000 * (j : Int) → mc_R l G mt_X11_worthOf d (mc_P h n fun _ => True) (6, [(0, .ref 542), (1, .ref 571), (2, .int f), (3, .int s), (4, .int a), (5, .int i)], [], h, n, 0, 0) := by
  have hmi : mt_X11_worthOf ∈ mt_prog := List.mem_of_getElem? mi_X11_worthOf
  intro c
  induction c with
  | zero =>
    intro j a i hj hi ha0 ha1
    refine mc_cx hmi 2 (F' := (9, [(0, .ref 542), (1, .ref 571), (2, .int f), (3, .int s), (4, .int a), (5, .int i)], [.int s, .int i], h, n, 0, 0)) (by with_unfolding_all rfl) ?_
    refine mc_ci hmi (c := .ge) (tg := 60) (pc' := 12) rfl rfl rfl hi rfl (fun (q29 : s.toInt ≤ (j : Int)) => ?_) (fun (q29 : (j : Int) < s.toInt) => ?_)
    · refine mc_cx hmi 1 (F' := (62, [(0, .ref 542), (1, .ref 571), (2, .int f), (3, .int s), (4, .int a), (5, .int i)], [.int a], h, n, 0, 0)) (by with_unfolding_all rfl) ?_
      exact mc_ret hmi rfl rfl rfl ⟨rfl, rfl, _, rfl, trivial⟩
    · exact absurd q29 (by omega)
  | succ c ih =>
    intro j a i hj hi ha0 ha1
    refine mc_cx hmi 2 (F' := (9, [(0, .ref 542), (1, .ref 571), (2, .int f), (3, .int s), (4, .int a), (5, .int i)], [.int s, .int i], h, n, 0, 0)) (by with_unfolding_all rfl) ?_
    refine mc_ci hmi (c := .ge) (tg := 60) (pc' := 12) rfl rfl rfl hi rfl (fun (q30 : s.toInt ≤ (j : Int)) => ?_) (fun (q30 : (j : Int) < s.toInt) => ?_)
    · exact absurd q30 (by omega)
    · refine mc_cx hmi 5 (F' := (19, [(0, .ref 542), (1, .ref 571), (2, .int f), (3, .int s), (4, .int a), (5, .int i)], [.int i, .int s, .int f, .ref 571, .int a], h, n, 0, 0)) (by with_unfolding_all rfl) ?_
      have h13j := h13 (0 + (j : Int)) (by omega) (by omega)
      have key : ∀ u : Int32, -1000000 ≤ u.toInt → u.toInt ≤ 1000000 → mc_R l G mt_X11_worthOf d (mc_P h n fun _ => True) (51, [(0, .ref 542), (1, .ref 571), (2, .int f), (3, .int s), (4, .int a), (5, .int i)], [.int u, .int a], h, n, 0, 0) := by
        intro u hu0 hu1
        refine mc_cx hmi 4 (F' := (6, [(5, .int (i + Int32.ofInt 1)), (4, .int (a + u)), (0, .ref 542), (1, .ref 571), (2, .int f), (3, .int s)], [], h, n, 0, 0)) (by with_unfolding_all rfl) ?_
        have e31 : (a + u).toInt = a.toInt + u.toInt := mc_add rfl rfl (by omega) (by omega)
        have e32 : (i + Int32.ofInt 1).toInt = (j : Int) + 1 := mc_add hi (by decide) (by omega) (by omega)
        refine mc_lvs (lv' := [(0, .ref 542), (1, .ref 571), (2, .int f), (3, .int s), (4, .int (a + u)), (5, .int (i + Int32.ofInt 1))]) (by simp) ?_
        exact ih (j + 1) (a + u) (i + Int32.ofInt 1) (by omega) (by rw [e32]; omega) (by rw [e31]; omega) (by rw [e31]; omega)
      refine mc_callP hmi (en := (19, .invokestatic 145, 3, (3, 165, 0, 0), [1329, 1328])) rfl (q := (mt_X11_isTaken, [.ref 571, .int f, .int s, .int i], [.int a])) (by with_unfolding_all rfl) ⟨rfl, rfl⟩ (pc' := 22) rfl (mc_isTaken_571 hd H f s i (by omega) (by omega) (by omega) (by omega)) (fun y33 e34 => ?_)
      refine mc_cz hmi (c := .eq) (tg := 40) (pc' := 25) rfl rfl rfl rfl (fun (q35 : y33.toInt = 0) => ?_) (fun (q35 : y33.toInt ≠ 0) => ?_)
      · refine mc_cx hmi 1 (F' := (41, [(0, .ref 542), (1, .ref 571), (2, .int f), (3, .int s), (4, .int a), (5, .int i)], [.ref 542, .int a], h, n, 0, 0)) (by with_unfolding_all rfl) ?_
        refine mc_getr hmi H (k := 542) (c := 543) (pc' := 44) rfl rfl rfl rfl rfl ?_
        refine mc_cx hmi 4 (F' := (49, [(0, .ref 542), (1, .ref 571), (2, .int f), (3, .int s), (4, .int a), (5, .int i)], [.int (f + i), .ref 571, .ref 543, .int a], h, n, 0, 0)) (by with_unfolding_all rfl) ?_
        have e36 : (f + i).toInt = 0 + (j : Int) := mc_add hf hi (by omega) (by omega)
        refine mc_iald hmi H (k := 571) (i := (0 + (j : Int))) (pc' := 50) rfl rfl rfl e36 (by omega) (by omega) rfl (fun y37 e38 r39 r40 => ?_)
        rw [e38] at r39 r40
        refine mc_iald hmi H (k := 543) (i := ab_ri h 571 ((0 + (j : Int)))) (pc' := 51) rfl rfl rfl e38 (by omega) (by omega) rfl (fun y41 e42 r43 r44 => ?_)
        rw [e42] at r43 r44
        exact key _ (by rw [e42]; omega) (by rw [e42]; omega)
      · refine mc_cx hmi 1 (F' := (26, [(0, .ref 542), (1, .ref 571), (2, .int f), (3, .int s), (4, .int a), (5, .int i)], [.ref 542, .int a], h, n, 0, 0)) (by with_unfolding_all rfl) ?_
        refine mc_getr hmi H (k := 542) (c := 543) (pc' := 29) rfl rfl rfl rfl rfl ?_
        refine mc_cx hmi 4 (F' := (34, [(0, .ref 542), (1, .ref 571), (2, .int f), (3, .int s), (4, .int a), (5, .int i)], [.int (f + i), .ref 571, .ref 543, .int a], h, n, 0, 0)) (by with_unfolding_all rfl) ?_
        have e45 : (f + i).toInt = 0 + (j : Int) := mc_add hf hi (by omega) (by omega)
        refine mc_iald hmi H (k := 571) (i := (0 + (j : Int))) (pc' := 35) rfl rfl rfl e45 (by omega) (by omega) rfl (fun y46 e47 r48 r49 => ?_)
        rw [e47] at r48 r49
        refine mc_iald hmi H (k := 543) (i := ab_ri h 571 ((0 + (j : Int)))) (pc' := 36) rfl rfl rfl e47 (by omega) (by omega) rfl (fun y50 e51 r52 r53 => ?_)
        rw [e51] at r52 r53
        refine mc_cx hmi 2 (F' := (51, [(0, .ref 542), (1, .ref 571), (2, .int f), (3, .int s), (4, .int a), (5, .int i)], [.int (-y50), .int a], h, n, 0, 0)) (by with_unfolding_all rfl) ?_
        have e54 : (-y50).toInt = -ab_ri h 543 (ab_ri h 571 ((0 + (j : Int)))) := mc_neg e51 (by omega)
        exact key _ (by rw [e54]; omega) (by rw [e54]; omega)
set_option maxRecDepth 100000 in
theorem mc_worthOf {l : Launch} {G : ax_T} {d : Nat} {h : ax_H} {n : Nat} (hd : 2 ≤ d) (H : mc_HW h n) (f s : Int32) (hf : f.toInt = 0) (hs0 : 0 ≤ s.toInt) (hs : s.toInt ≤ 21) (h13 : ∀ j : Int, 0 ≤ j → j < s.toInt → ab_ri h 571 j ≤ 13) : mc_M l G d mt_X11_worthOf [.ref 542, .ref 571, .int f, .int s] h n (mc_P h n fun _ => True) := by
  obtain ⟨d, rfl⟩ : ∃ e, d = e + 1 := ⟨d - 1, by omega⟩
  have hmi : mt_X11_worthOf ∈ mt_prog := List.mem_of_getElem? mi_X11_worthOf
  refine mc_to hmi rfl ?_
  show mc_R _ _ _ _ _ (0, [(0, .ref 542), (1, .ref 571), (2, .int f), (3, .int s)], [], h, n, 0, 0)
  refine mc_cx hmi 4 (F' := (6, [(5, .int (Int32.ofInt 0)), (4, .int (Int32.ofInt 0)), (0, .ref 542), (1, .ref 571), (2, .int f), (3, .int s)], [], h, n, 0, 0)) (by with_unfolding_all rfl) ?_
  refine mc_lvs (lv' := [(0, .ref 542), (1, .ref 571), (2, .int f), (3, .int s), (4, .int (Int32.ofInt 0)), (5, .int (Int32.ofInt 0))]) (by simp) ?_
  exact wo_loop (by omega) H f s hf hs h13 s.toInt.toNat 0 _ _ (by omega) rfl (by decide) (by decide)
set_option maxRecDepth 100000 in
theorem mc_mayTake {l : Launch} {G : ax_T} {d : Nat} {h : ax_H} {n : Nat} (hd : 1 ≤ d) (H : mc_HW h n) (k a b t : Int32) (hk0 : 0 ≤ k.toInt) (hk1 : k.toInt ≤ 5) (ha0 : 0 ≤ a.toInt) (ha1 : a.toInt ≤ 13) : mc_M l G d mt_X11_mayTake [.ref 542, .int k, .int a, .int b, .int t] h n (mc_P h n fun y => y.toInt = 0 ∨ y.toInt = 1) := by
  obtain ⟨d, rfl⟩ : ∃ e, d = e + 1 := ⟨d - 1, by omega⟩
  have hmi : mt_X11_mayTake ∈ mt_prog := List.mem_of_getElem? mi_X11_mayTake
  refine mc_to hmi rfl ?_
  show mc_R _ _ _ _ _ (0, [(0, .ref 542), (1, .int k), (2, .int a), (3, .int b), (4, .int t)], [], h, n, 0, 0)
  have key : ∀ u : Int32, mc_R l G mt_X11_mayTake d (mc_P h n fun y => y.toInt = 0 ∨ y.toInt = 1) (41, [(0, .ref 542), (1, .int k), (2, .int a), (3, .int b), (4, .int t)], [.int u], h, n, 0, 0) := by
    intro u
    refine mc_cx hmi 7 (F' := (50, [(5, .int u), (0, .ref 542), (1, .int k), (2, .int a), (3, .int b), (4, .int t)], [.int (Int32.ofInt 1), .int ((u >>> (b &&& 31)) &&& (Int32.ofInt 1))], h, n, 0, 0)) (by with_unfolding_all rfl) ?_
    refine mc_ci hmi (c := .ne) (tg := 57) (pc' := 53) rfl rfl rfl rfl (by decide) (fun (q55 : (((u >>> (b &&& 31)) &&& (Int32.ofInt 1))).toInt ≠ 1) => ?_) (fun (q55 : (((u >>> (b &&& 31)) &&& (Int32.ofInt 1))).toInt = 1) => ?_)
    · refine mc_cx hmi 1 (F' := (58, [(5, .int u), (0, .ref 542), (1, .int k), (2, .int a), (3, .int b), (4, .int t)], [.int (Int32.ofInt 0)], h, n, 0, 0)) (by with_unfolding_all rfl) ?_
      exact mc_ret hmi rfl rfl rfl ⟨rfl, rfl, _, rfl, by decide⟩
    · refine mc_cx hmi 2 (F' := (58, [(5, .int u), (0, .ref 542), (1, .int k), (2, .int a), (3, .int b), (4, .int t)], [.int (Int32.ofInt 1)], h, n, 0, 0)) (by with_unfolding_all rfl) ?_
      exact mc_ret hmi rfl rfl rfl ⟨rfl, rfl, _, rfl, by decide⟩
  refine mc_cx hmi 2 (F' := (3, [(0, .ref 542), (1, .int k), (2, .int a), (3, .int b), (4, .int t)], [.int (Int32.ofInt 1), .int t], h, n, 0, 0)) (by with_unfolding_all rfl) ?_
  refine mc_ci hmi (c := .ne) (tg := 20) (pc' := 6) rfl rfl rfl rfl (by decide) (fun (q56 : t.toInt ≠ 1) => ?_) (fun (q56 : t.toInt = 1) => ?_)
  · refine mc_cx hmi 2 (F' := (23, [(0, .ref 542), (1, .int k), (2, .int a), (3, .int b), (4, .int t)], [.int (Int32.ofInt 2), .int t], h, n, 0, 0)) (by with_unfolding_all rfl) ?_
    refine mc_ci hmi (c := .ne) (tg := 40) (pc' := 26) rfl rfl rfl rfl (by decide) (fun (q63 : t.toInt ≠ 2) => ?_) (fun (q63 : t.toInt = 2) => ?_)
    · refine mc_cx hmi 1 (F' := (41, [(0, .ref 542), (1, .int k), (2, .int a), (3, .int b), (4, .int t)], [.int (Int32.ofInt 0)], h, n, 0, 0)) (by with_unfolding_all rfl) ?_
      exact key _
    · refine mc_cx hmi 1 (F' := (27, [(0, .ref 542), (1, .int k), (2, .int a), (3, .int b), (4, .int t)], [.ref 542], h, n, 0, 0)) (by with_unfolding_all rfl) ?_
      refine mc_getr hmi H (k := 542) (c := 548) (pc' := 30) rfl rfl rfl rfl rfl ?_
      refine mc_cx hmi 5 (F' := (36, [(0, .ref 542), (1, .int k), (2, .int a), (3, .int b), (4, .int t)], [.int (((Int8.ofInt 14).toInt32 * k) + a), .ref 548], h, n, 0, 0)) (by with_unfolding_all rfl) ?_
      have e64 : ((Int8.ofInt 14).toInt32 * k).toInt = 14 * k.toInt := mc_mul (by decide) rfl (by omega) (by omega)
      have e65 : (((Int8.ofInt 14).toInt32 * k) + a).toInt = (14 * k.toInt) + a.toInt := mc_add e64 rfl (by omega) (by omega)
      refine mc_iald hmi H (k := 548) (i := ((14 * k.toInt) + a.toInt)) (pc' := 37) rfl rfl rfl e65 (by omega) (by omega) rfl (fun y66 e67 r68 r69 => ?_)
      rw [e67] at r68 r69
      refine mc_cx hmi 1 (F' := (41, [(0, .ref 542), (1, .int k), (2, .int a), (3, .int b), (4, .int t)], [.int y66], h, n, 0, 0)) (by with_unfolding_all rfl) ?_
      exact key _
  · refine mc_cx hmi 1 (F' := (7, [(0, .ref 542), (1, .int k), (2, .int a), (3, .int b), (4, .int t)], [.ref 542], h, n, 0, 0)) (by with_unfolding_all rfl) ?_
    refine mc_getr hmi H (k := 542) (c := 547) (pc' := 10) rfl rfl rfl rfl rfl ?_
    refine mc_cx hmi 5 (F' := (16, [(0, .ref 542), (1, .int k), (2, .int a), (3, .int b), (4, .int t)], [.int (((Int8.ofInt 14).toInt32 * k) + a), .ref 547], h, n, 0, 0)) (by with_unfolding_all rfl) ?_
    have e57 : ((Int8.ofInt 14).toInt32 * k).toInt = 14 * k.toInt := mc_mul (by decide) rfl (by omega) (by omega)
    have e58 : (((Int8.ofInt 14).toInt32 * k) + a).toInt = (14 * k.toInt) + a.toInt := mc_add e57 rfl (by omega) (by omega)
    refine mc_iald hmi H (k := 547) (i := ((14 * k.toInt) + a.toInt)) (pc' := 17) rfl rfl rfl e58 (by omega) (by omega) rfl (fun y59 e60 r61 r62 => ?_)
    rw [e60] at r61 r62
    refine mc_cx hmi 1 (F' := (41, [(0, .ref 542), (1, .int k), (2, .int a), (3, .int b), (4, .int t)], [.int y59], h, n, 0, 0)) (by with_unfolding_all rfl) ?_
    exact key _
end
