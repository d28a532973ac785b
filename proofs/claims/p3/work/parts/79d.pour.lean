/-! ===== by hand: small ones of the reference; pour (ways printed by wip/hand/h_pour.py) ===== -/
theorem mc_neg {x : Int32} {a : Int} (hx : x.toInt = a) (h1 : -2147483647 ≤ a) : (-x).toInt = -a := by
  have h2 := x.toInt_lt
  rw [Int32.toInt_neg, hx]
  exact ab_bm (by omega) (by omega)
/-- a pure method's answer -/
def mc_P (h : ax_H) (n : Nat) (P : Int32 → Prop) : Option Value → ax_H → Nat → Prop := fun r h' n' => h' = h ∧ n' = n ∧ ∃ y : Int32, r = some (.int y) ∧ P y
theorem mc_callP {l : Launch} {G : ax_T} {mi : ax_MI} {d : Nat} {Q : Option Value → ax_H → Nat → Prop} {pc pc' : Nat} {lv : List (Nat × Value)} {st : List Value} {h : ax_H} {n : Nat} (hmi : mi ∈ mt_prog) {en : ax_EN} (ha : ax_at mi.2.2.2.2.2.2.2.2 pc = some en) {q : ax_MI × List Value × List Value} (hq : ax_inv mt_prog en.2.1 en.2.2.2.1 st h = some q) (h0 : q.1.2.2.2.2.2.2.1 = 0 ∧ q.1.2.2.2.2.2.2.2.1 = 0) (hp : pc + 3 = pc') {P : Int32 → Prop} (hM : mc_M l G d q.1 q.2.1 h n (mc_P h n P)) (kk : ∀ y : Int32, P y → mc_R l G mi d Q (pc', lv, .int y :: q.2.2, h, n, 0, 0)) : mc_R l G mi d Q (pc, lv, st, h, n, 0, 0) := by
  refine mc_call hmi ha hq h0 hp (mc_mono hM ?_)
  intro r h' n' hP
  obtain ⟨e1, e2, y, e3, e4⟩ := hP
  rw [e1, e2, e3]
  exact kk y e4
theorem mc_bald {l : Launch} {G : ax_T} {mi : ax_MI} {d : Nat} {Q : Option Value → ax_H → Nat → Prop} {pc pc' : Nat} {lv : List (Nat × Value)} {st : List Value} {h : ax_H} {n : Nat} (hmi : mi ∈ mt_prog) (H : mc_HW h n) {k N f : Nat} {lo hi : Int} {σ : List ab_Y} {hs : List Nat} {pe : ax_PE} {x : Int32} {i : Int} (ha : ax_at mi.2.2.2.2.2.2.2.2 pc = some (pc, .baload, 1, pe, hs)) (hk : Nat.blt k 573 = true) (hf : ab_K[ab_k k]? = some (.inl (1, N, N, .inl (lo, hi, f), σ))) (hx : x.toInt = i) (h0 : 0 ≤ i) (hN : i < N) (hp : pc + 1 = pc') (hR : ∀ y : Int32, y.toInt = ab_ri h k i → lo ≤ y.toInt → y.toInt ≤ hi → mc_R l G mi d Q (pc', lv, .int y :: st, h, n, 0, 0)) : mc_R l G mi d Q (pc, lv, .int x :: .ref k :: st, h, n, 0, 0) := by
  subst hp
  obtain ⟨g, h1, h2, h3⟩ := mc_arr H hk hf rfl
  have hc := mc_clamp (x := x) (by omega)
  obtain ⟨⟨y, e1, e2, e3, -⟩, -, e4⟩ := h3 x.toNatClampNeg (by omega)
  refine mc_stp hmi ha ?_ (hR y ?_ e2 e3)
  · simp only [ax_step, ax_s_bald, h1, beq_self_eq_true, mc_in (x := x) (N := N) (by omega) (by omega), Bool.and_self, cond_true, e1]
  · rw [hc, hx, e1] at e4
    unfold ab_ri
    rw [e4]
theorem mc_inP {l : Launch} {G : ax_T} {d : Nat} (hd : 1 ≤ d) (v a b : Int32) (h : ax_H) (n : Nat) : mc_M l G d mt_X11_in [.int v, .int a, .int b] h n (mc_P h n fun y => y.toInt = 1 ∧ (a.toInt ≤ v.toInt ∧ v.toInt ≤ b.toInt) ∨ y.toInt = 0 ∧ ¬ (a.toInt ≤ v.toInt ∧ v.toInt ≤ b.toInt)) := by
  obtain ⟨d, rfl⟩ : ∃ e, d = e + 1 := ⟨d - 1, by omega⟩
  refine ⟨_, in_ok v a b h n, rfl, rfl, _, rfl, ?_⟩
  by_cases q : a.toInt ≤ v.toInt ∧ v.toInt ≤ b.toInt
  · exact Or.inl ⟨by rw [if_pos q]; rfl, q⟩
  · exact Or.inr ⟨by rw [if_neg q]; rfl, q⟩
theorem mc_rb {y : Int32} (h : y.toInt = 0 ∨ y.toInt = 1) : ax_retT (some .boolean) (some (.int y)) = true := by
  show (y == 0 || y == 1) = true
  rcases h with h | h
  · have : y = 0 := Int32.toInt_inj.mp h
    subst this; rfl
  · have : y = 1 := Int32.toInt_inj.mp h
    subst this; rfl
theorem mc_isRow {l : Launch} {G : ax_T} {d : Nat} (hd : 2 ≤ d) (r : Int32) (h : ax_H) (n : Nat) : mc_M l G d mt_X11_isRow [.int r] h n (mc_P h n fun y => y.toInt = 1 ∧ (0 ≤ r.toInt ∧ r.toInt ≤ 11) ∨ y.toInt = 0 ∧ ¬ (0 ≤ r.toInt ∧ r.toInt ≤ 11)) := by
  obtain ⟨d, rfl⟩ : ∃ e, d = e + 1 := ⟨d - 1, by omega⟩
  have hmi : mt_X11_isRow ∈ mt_prog := List.mem_of_getElem? mi_X11_isRow
  refine mc_to hmi rfl ?_
  show mc_R _ _ _ _ _ (0, [(0, .int r)], [], h, n, 0, 0)
  refine mc_cx hmi 3 (F' := (4, [(0, .int r)], [.int (Int8.ofInt 11).toInt32, .int (Int32.ofInt 0), .int r], h, n, 0, 0)) (by with_unfolding_all rfl) ?_
  refine mc_callP hmi (en := (4, .invokestatic 120, 3, (3, 152, 0, 0), [1291, 1290])) rfl (q := (mt_X11_in, [.int r, .int (Int32.ofInt 0), .int (Int8.ofInt 11).toInt32], [])) (by with_unfolding_all rfl) ⟨rfl, rfl⟩ (pc' := 7) rfl (mc_inP (by omega) _ _ _ _ _) (fun y1 (e2 : y1.toInt = 1 ∧ (0 ≤ r.toInt ∧ r.toInt ≤ 11) ∨ y1.toInt = 0 ∧ ¬ (0 ≤ r.toInt ∧ r.toInt ≤ 11)) => ?_)
  exact mc_ret hmi rfl rfl (mc_rb (by omega)) ⟨rfl, rfl, _, rfl, e2⟩
/-- is what stands at a place taken: x there, the places from k on, c of them -/
def tk (f : Int → Int) (x : Int) : Nat → Int → Bool
  | 0, _ => false
  | c + 1, k => if f k = x then tk f x c (k + 1) else decide (x < f k)
theorem tk_550 {l : Launch} {G : ax_T} {d : Nat} {h : ax_H} {n : Nat} (H : mc_HW h n) (b s i : Int32) (hb : 0 ≤ b.toInt) (hi : 0 ≤ i.toInt) (his : i.toInt < s.toInt) (hN : b.toInt + s.toInt ≤ 312) : ∀ (c : Nat) (k : Int32), k.toInt + (c : Int) = s.toInt → i.toInt < k.toInt → mc_R l G mt_X11_isTaken d (mc_P h n fun y => y.toInt = if tk (ab_ri h 550) (ab_ri h 550 (b.toInt + i.toInt)) c (b.toInt + k.toInt) then 1 else 0) (5, [(0, .ref 550), (1, .int b), (2, .int s), (3, .int i), (4, .int k)], [], h, n, 0, 0) := by
  have hmi : mt_X11_isTaken ∈ mt_prog := List.mem_of_getElem? mi_X11_isTaken
  intro c
  induction c with
  | zero =>
    intro k hk hik
    refine mc_cx hmi 2 (F' := (8, [(0, .ref 550), (1, .int b), (2, .int s), (3, .int i), (4, .int k)], [.int s, .int k], h, n, 0, 0)) (by with_unfolding_all rfl) ?_
    refine mc_ci hmi (c := .ge) (tg := 31) (pc' := 11) rfl rfl rfl rfl rfl (fun (q3 : s.toInt ≤ k.toInt) => ?_) (fun (q3 : k.toInt < s.toInt) => ?_)
    · refine mc_cx hmi 2 (F' := (34, [(0, .ref 550), (1, .int b), (2, .int s), (3, .int i), (4, .int k)], [.int s, .int k], h, n, 0, 0)) (by with_unfolding_all rfl) ?_
      refine mc_ci hmi (c := .ge) (tg := 55) (pc' := 37) rfl rfl rfl rfl rfl (fun (q4 : s.toInt ≤ k.toInt) => ?_) (fun (q4 : k.toInt < s.toInt) => ?_)
      · refine mc_cx hmi 1 (F' := (56, [(0, .ref 550), (1, .int b), (2, .int s), (3, .int i), (4, .int k)], [.int (Int32.ofInt 0)], h, n, 0, 0)) (by with_unfolding_all rfl) ?_
        exact mc_ret hmi rfl rfl rfl ⟨rfl, rfl, _, rfl, rfl⟩
      · exact absurd q4 (by omega)
    · exact absurd q3 (by omega)
  | succ c ih =>
    intro k hk hik
    refine mc_cx hmi 2 (F' := (8, [(0, .ref 550), (1, .int b), (2, .int s), (3, .int i), (4, .int k)], [.int s, .int k], h, n, 0, 0)) (by with_unfolding_all rfl) ?_
    refine mc_ci hmi (c := .ge) (tg := 31) (pc' := 11) rfl rfl rfl rfl rfl (fun (q5 : s.toInt ≤ k.toInt) => ?_) (fun (q5 : k.toInt < s.toInt) => ?_)
    · exact absurd q5 (by omega)
    · refine mc_cx hmi 4 (F' := (16, [(0, .ref 550), (1, .int b), (2, .int s), (3, .int i), (4, .int k)], [.int (b + k), .ref 550], h, n, 0, 0)) (by with_unfolding_all rfl) ?_
      have e6 : (b + k).toInt = b.toInt + k.toInt := mc_add rfl rfl (by omega) (by omega)
      refine mc_iald hmi H (k := 550) (i := (b.toInt + k.toInt)) (pc' := 17) rfl rfl rfl e6 (by omega) (by omega) rfl (fun y7 e8 r9 r10 => ?_)
      rw [e8] at r9 r10
      refine mc_cx hmi 4 (F' := (21, [(0, .ref 550), (1, .int b), (2, .int s), (3, .int i), (4, .int k)], [.int (b + i), .ref 550, .int y7], h, n, 0, 0)) (by with_unfolding_all rfl) ?_
      have e11 : (b + i).toInt = b.toInt + i.toInt := mc_add rfl rfl (by omega) (by omega)
      refine mc_iald hmi H (k := 550) (i := (b.toInt + i.toInt)) (pc' := 22) rfl rfl rfl e11 (by omega) (by omega) rfl (fun y12 e13 r14 r15 => ?_)
      rw [e13] at r14 r15
      refine mc_ci hmi (c := .ne) (tg := 31) (pc' := 25) rfl rfl rfl e8 e13 (fun (q16 : ab_ri h 550 ((b.toInt + k.toInt)) ≠ ab_ri h 550 ((b.toInt + i.toInt))) => ?_) (fun (q16 : ab_ri h 550 ((b.toInt + k.toInt)) = ab_ri h 550 ((b.toInt + i.toInt))) => ?_)
      · refine mc_cx hmi 2 (F' := (34, [(0, .ref 550), (1, .int b), (2, .int s), (3, .int i), (4, .int k)], [.int s, .int k], h, n, 0, 0)) (by with_unfolding_all rfl) ?_
        refine mc_ci hmi (c := .ge) (tg := 55) (pc' := 37) rfl rfl rfl rfl rfl (fun (q17 : s.toInt ≤ k.toInt) => ?_) (fun (q17 : k.toInt < s.toInt) => ?_)
        · exact absurd q17 (by omega)
        · refine mc_cx hmi 4 (F' := (42, [(0, .ref 550), (1, .int b), (2, .int s), (3, .int i), (4, .int k)], [.int (b + k), .ref 550], h, n, 0, 0)) (by with_unfolding_all rfl) ?_
          have e18 : (b + k).toInt = b.toInt + k.toInt := mc_add rfl rfl (by omega) (by omega)
          refine mc_iald hmi H (k := 550) (i := (b.toInt + k.toInt)) (pc' := 43) rfl rfl rfl e18 (by omega) (by omega) rfl (fun y19 e20 r21 r22 => ?_)
          rw [e20] at r21 r22
          refine mc_cx hmi 4 (F' := (47, [(0, .ref 550), (1, .int b), (2, .int s), (3, .int i), (4, .int k)], [.int (b + i), .ref 550, .int y19], h, n, 0, 0)) (by with_unfolding_all rfl) ?_
          have e23 : (b + i).toInt = b.toInt + i.toInt := mc_add rfl rfl (by omega) (by omega)
          refine mc_iald hmi H (k := 550) (i := (b.toInt + i.toInt)) (pc' := 48) rfl rfl rfl e23 (by omega) (by omega) rfl (fun y24 e25 r26 r27 => ?_)
          rw [e25] at r26 r27
          refine mc_ci hmi (c := .le) (tg := 55) (pc' := 51) rfl rfl rfl e20 e25 (fun (q28 : ab_ri h 550 ((b.toInt + k.toInt)) ≤ ab_ri h 550 ((b.toInt + i.toInt))) => ?_) (fun (q28 : ab_ri h 550 ((b.toInt + i.toInt)) < ab_ri h 550 ((b.toInt + k.toInt))) => ?_)
          · refine mc_cx hmi 1 (F' := (56, [(0, .ref 550), (1, .int b), (2, .int s), (3, .int i), (4, .int k)], [.int (Int32.ofInt 0)], h, n, 0, 0)) (by with_unfolding_all rfl) ?_
            refine mc_ret hmi rfl rfl (mc_rb (by decide)) ⟨rfl, rfl, _, rfl, ?_⟩
            show _ = if (if ab_ri h 550 (b.toInt + k.toInt) = ab_ri h 550 (b.toInt + i.toInt) then _ else decide (ab_ri h 550 (b.toInt + i.toInt) < ab_ri h 550 (b.toInt + k.toInt))) = true then (1 : Int) else 0
            rw [if_neg q16, decide_eq_false (by omega)]
            rfl
          · refine mc_cx hmi 2 (F' := (56, [(0, .ref 550), (1, .int b), (2, .int s), (3, .int i), (4, .int k)], [.int (Int32.ofInt 1)], h, n, 0, 0)) (by with_unfolding_all rfl) ?_
            refine mc_ret hmi rfl rfl (mc_rb (by decide)) ⟨rfl, rfl, _, rfl, ?_⟩
            show _ = if (if ab_ri h 550 (b.toInt + k.toInt) = ab_ri h 550 (b.toInt + i.toInt) then _ else decide (ab_ri h 550 (b.toInt + i.toInt) < ab_ri h 550 (b.toInt + k.toInt))) = true then (1 : Int) else 0
            rw [if_neg q16, decide_eq_true (by omega)]
            rfl
      · refine mc_cx hmi 2 (F' := (5, [(4, .int (k + Int32.ofInt 1)), (0, .ref 550), (1, .int b), (2, .int s), (3, .int i)], [], h, n, 0, 0)) (by with_unfolding_all rfl) ?_
        have e29 : (k + Int32.ofInt 1).toInt = k.toInt + 1 := mc_add rfl (by decide) (by omega) (by omega)
        refine mc_lvs (lv' := [(0, .ref 550), (1, .int b), (2, .int s), (3, .int i), (4, .int (k + Int32.ofInt 1))]) (by simp) ?_
        refine (show (if tk (ab_ri h 550) (ab_ri h 550 (b.toInt + i.toInt)) (c + 1) (b.toInt + k.toInt) then (1 : Int) else 0) = (if tk (ab_ri h 550) (ab_ri h 550 (b.toInt + i.toInt)) c (b.toInt + (k + Int32.ofInt 1).toInt) then (1 : Int) else 0) from ?_) ▸ ih (k + Int32.ofInt 1) (by rw [e29]; omega) (by rw [e29]; omega)
        rw [e29, show tk (ab_ri h 550) (ab_ri h 550 (b.toInt + i.toInt)) (c + 1) (b.toInt + k.toInt) = tk (ab_ri h 550) (ab_ri h 550 (b.toInt + i.toInt)) c (b.toInt + k.toInt + 1) from if_pos q16, Int.add_assoc]
theorem mc_isTaken_550 {l : Launch} {G : ax_T} {d : Nat} (hd : 1 ≤ d) {h : ax_H} {n : Nat} (H : mc_HW h n) (b s i : Int32) (hb : 0 ≤ b.toInt) (hi : 0 ≤ i.toInt) (his : i.toInt < s.toInt) (hN : b.toInt + s.toInt ≤ 312) : mc_M l G d mt_X11_isTaken [.ref 550, .int b, .int s, .int i] h n (mc_P h n fun y => y.toInt = if tk (ab_ri h 550) (ab_ri h 550 (b.toInt + i.toInt)) (s.toInt - i.toInt - 1).toNat (b.toInt + i.toInt + 1) then 1 else 0) := by
  obtain ⟨d, rfl⟩ : ∃ e, d = e + 1 := ⟨d - 1, by omega⟩
  have hmi : mt_X11_isTaken ∈ mt_prog := List.mem_of_getElem? mi_X11_isTaken
  refine mc_to hmi rfl ?_
  show mc_R _ _ _ _ _ (0, [(0, .ref 550), (1, .int b), (2, .int s), (3, .int i)], [], h, n, 0, 0)
  refine mc_cx hmi 4 (F' := (5, [(4, .int (i + (Int32.ofInt 1))), (0, .ref 550), (1, .int b), (2, .int s), (3, .int i)], [], h, n, 0, 0)) (by with_unfolding_all rfl) ?_
  have e30 : (i + (Int32.ofInt 1)).toInt = i.toInt + 1 := mc_add rfl (by decide) (by omega) (by omega)
  refine mc_lvs (lv' := [(0, .ref 550), (1, .int b), (2, .int s), (3, .int i), (4, .int (i + (Int32.ofInt 1)))]) (by simp) ?_
  refine (show b.toInt + (i + (Int32.ofInt 1)).toInt = b.toInt + i.toInt + 1 by rw [e30]; omega) ▸ tk_550 H b s i hb hi his hN (s.toInt - i.toInt - 1).toNat (i + (Int32.ofInt 1)) (by rw [e30]; omega) (by rw [e30]; omega)
/-- how many of a sign stand in a row, taken or not -/
def pw (f : Int → Int) (b : Int) (sz : Nat) (s : Int) (t : Bool) : Nat → Int
  | 0 => 0
  | i + 1 => pw f b sz s t i + (if f (b + (i : Int)) = s ∧ tk f (f (b + (i : Int))) (sz - i - 1) (b + (i : Int) + 1) = t then 1 else 0)
theorem pw_bd (f : Int → Int) (b : Int) (sz : Nat) (s : Int) (t : Bool) : ∀ i : Nat, 0 ≤ pw f b sz s t i ∧ pw f b sz s t i ≤ (i : Int)
  | 0 => ⟨Int.le_refl _, Int.le_refl _⟩
  | i + 1 => by
    have := pw_bd f b sz s t i
    show 0 ≤ pw f b sz s t i + _ ∧ pw f b sz s t i + _ ≤ _
    split <;> omega
def PT (h : ax_H) (r s z : Int) : Int := pw (ab_ri h 550) (24 * r) (ab_ri h 549 r).toNat s (decide (z = 1)) (ab_ri h 549 r).toNat
theorem PT_of {h h' : ax_H} (e : ∀ (k : Nat) (i : Int), k ≠ 551 → k ≠ 552 → ab_rd h' k i = ab_rd h k i) (r s z : Int) : PT h' r s z = PT h r s z := by
  have e1 : ab_ri h' 550 = ab_ri h 550 := funext fun i => ab_ri_of (e 550 i (by decide) (by decide))
  have e2 : ab_ri h' 549 = ab_ri h 549 := funext fun i => ab_ri_of (e 549 i (by decide) (by decide))
  unfold PT
  rw [e1, e2]
theorem po_loop {l : Launch} {G : ax_T} {d : Nat} (hd : 1 ≤ d) {h : ax_H} {n : Nat} (H : mc_HW h n) (r s z : Int32) (hr0 : 0 ≤ r.toInt) (hr1 : r.toInt ≤ 11) (hz : z.toInt = 0 ∨ z.toInt = 1) : ∀ (c j : Nat) (a i : Int32), j + c = (ab_ri h 549 r.toInt).toNat → i.toInt = (j : Int) → a.toInt = pw (ab_ri h 550) (24 * r.toInt) (ab_ri h 549 r.toInt).toNat s.toInt (decide (z.toInt = 1)) j → mc_R l G mt_X11_poured d (mc_P h n fun y => y.toInt = PT h r.toInt s.toInt z.toInt) (6, [(0, .ref 542), (1, .int r), (2, .int s), (3, .int z), (4, .int a), (5, .int i)], [], h, n, 0, 0) := by
  have hmi : mt_X11_poured ∈ mt_prog := List.mem_of_getElem? mi_X11_poured
  have hsz := mc_rng H (k := 549) (i := r.toInt) rfl rfl hr0 (by omega)
  intro c
  induction c with
  | zero =>
    intro j a i hj hi ha
    have hb := pw_bd (ab_ri h 550) (24 * r.toInt) (ab_ri h 549 r.toInt).toNat s.toInt (decide (z.toInt = 1)) j
    refine mc_cx hmi 2 (F' := (9, [(0, .ref 542), (1, .int r), (2, .int s), (3, .int z), (4, .int a), (5, .int i)], [.ref 542, .int i], h, n, 0, 0)) (by with_unfolding_all rfl) ?_
    refine mc_getr hmi H (k := 542) (c := 549) (pc' := 12) rfl rfl rfl rfl rfl ?_
    refine mc_cx hmi 1 (F' := (13, [(0, .ref 542), (1, .int r), (2, .int s), (3, .int z), (4, .int a), (5, .int i)], [.int r, .ref 549, .int i], h, n, 0, 0)) (by with_unfolding_all rfl) ?_
    refine mc_iald hmi H (k := 549) (i := r.toInt) (pc' := 14) rfl rfl rfl rfl (by omega) (by omega) rfl (fun y31 e32 r33 r34 => ?_)
    rw [e32] at r33 r34
    refine mc_ci hmi (c := .ge) (tg := 72) (pc' := 17) rfl rfl rfl hi e32 (fun (q35 : ab_ri h 549 (r.toInt) ≤ (j : Int)) => ?_) (fun (q35 : (j : Int) < ab_ri h 549 (r.toInt)) => ?_)
    · refine mc_cx hmi 1 (F' := (74, [(0, .ref 542), (1, .int r), (2, .int s), (3, .int z), (4, .int a), (5, .int i)], [.int a], h, n, 0, 0)) (by with_unfolding_all rfl) ?_
      exact mc_ret hmi rfl rfl rfl ⟨rfl, rfl, _, rfl, by show a.toInt = _; rw [ha, show j = (ab_ri h 549 r.toInt).toNat by omega]; rfl⟩
    · exact absurd q35 (by omega)
  | succ c ih =>
    intro j a i hj hi ha
    have hb := pw_bd (ab_ri h 550) (24 * r.toInt) (ab_ri h 549 r.toInt).toNat s.toInt (decide (z.toInt = 1)) j
    refine mc_cx hmi 2 (F' := (9, [(0, .ref 542), (1, .int r), (2, .int s), (3, .int z), (4, .int a), (5, .int i)], [.ref 542, .int i], h, n, 0, 0)) (by with_unfolding_all rfl) ?_
    refine mc_getr hmi H (k := 542) (c := 549) (pc' := 12) rfl rfl rfl rfl rfl ?_
    refine mc_cx hmi 1 (F' := (13, [(0, .ref 542), (1, .int r), (2, .int s), (3, .int z), (4, .int a), (5, .int i)], [.int r, .ref 549, .int i], h, n, 0, 0)) (by with_unfolding_all rfl) ?_
    refine mc_iald hmi H (k := 549) (i := r.toInt) (pc' := 14) rfl rfl rfl rfl (by omega) (by omega) rfl (fun y36 e37 r38 r39 => ?_)
    rw [e37] at r38 r39
    refine mc_ci hmi (c := .ge) (tg := 72) (pc' := 17) rfl rfl rfl hi e37 (fun (q40 : ab_ri h 549 (r.toInt) ≤ (j : Int)) => ?_) (fun (q40 : (j : Int) < ab_ri h 549 (r.toInt)) => ?_)
    · exact absurd q40 (by omega)
    · refine mc_cx hmi 2 (F' := (20, [(0, .ref 542), (1, .int r), (2, .int s), (3, .int z), (4, .int a), (5, .int i)], [.ref 542, .int a], h, n, 0, 0)) (by with_unfolding_all rfl) ?_
      refine mc_getr hmi H (k := 542) (c := 550) (pc' := 23) rfl rfl rfl rfl rfl ?_
      refine mc_cx hmi 5 (F' := (30, [(0, .ref 542), (1, .int r), (2, .int s), (3, .int z), (4, .int a), (5, .int i)], [.int (((Int8.ofInt 24).toInt32 * r) + i), .ref 550, .int a], h, n, 0, 0)) (by with_unfolding_all rfl) ?_
      have e41 : ((Int8.ofInt 24).toInt32 * r).toInt = 24 * r.toInt := mc_mul (by decide) rfl (by omega) (by omega)
      have e42 : (((Int8.ofInt 24).toInt32 * r) + i).toInt = (24 * r.toInt) + (j : Int) := mc_add e41 hi (by omega) (by omega)
      refine mc_iald hmi H (k := 550) (i := ((24 * r.toInt) + (j : Int))) (pc' := 31) rfl rfl rfl e42 (by omega) (by omega) rfl (fun y43 e44 r45 r46 => ?_)
      rw [e44] at r45 r46
      refine mc_cx hmi 1 (F' := (32, [(0, .ref 542), (1, .int r), (2, .int s), (3, .int z), (4, .int a), (5, .int i)], [.int s, .int y43, .int a], h, n, 0, 0)) (by with_unfolding_all rfl) ?_
      have key : ∀ u : Int32, u.toInt = (if ab_ri h 550 (24 * r.toInt + (j : Int)) = s.toInt ∧ tk (ab_ri h 550) (ab_ri h 550 (24 * r.toInt + (j : Int))) ((ab_ri h 549 r.toInt).toNat - j - 1) (24 * r.toInt + (j : Int) + 1) = decide (z.toInt = 1) then (1 : Int) else 0) → mc_R l G mt_X11_poured d (mc_P h n fun y => y.toInt = PT h r.toInt s.toInt z.toInt) (63, [(0, .ref 542), (1, .int r), (2, .int s), (3, .int z), (4, .int a), (5, .int i)], [.int u, .int a], h, n, 0, 0) := by
        intro u hu
        have hu1 : 0 ≤ u.toInt ∧ u.toInt ≤ 1 := by rw [hu]; split <;> decide
        rw [hu] at hu1
        refine mc_cx hmi 4 (F' := (6, [(5, .int (i + Int32.ofInt 1)), (4, .int (a + u)), (0, .ref 542), (1, .int r), (2, .int s), (3, .int z)], [], h, n, 0, 0)) (by with_unfolding_all rfl) ?_
        have e47 : (a + u).toInt = (pw (ab_ri h 550) (24 * r.toInt) (ab_ri h 549 r.toInt).toNat s.toInt (decide (z.toInt = 1)) j) + (if ab_ri h 550 (24 * r.toInt + (j : Int)) = s.toInt ∧ tk (ab_ri h 550) (ab_ri h 550 (24 * r.toInt + (j : Int))) ((ab_ri h 549 r.toInt).toNat - j - 1) (24 * r.toInt + (j : Int) + 1) = decide (z.toInt = 1) then (1 : Int) else 0) := mc_add ha hu (by omega) (by omega)
        have e48 : (i + Int32.ofInt 1).toInt = (j : Int) + 1 := mc_add hi (by decide) (by omega) (by omega)
        refine mc_lvs (lv' := [(0, .ref 542), (1, .int r), (2, .int s), (3, .int z), (4, .int (a + u)), (5, .int (i + Int32.ofInt 1))]) (by simp) ?_
        exact ih (j + 1) (a + u) (i + Int32.ofInt 1) (by omega) (by rw [e48]; omega) (by rw [e47]; rfl)
      refine mc_ci hmi (c := .ne) (tg := 62) (pc' := 35) rfl rfl rfl e44 rfl (fun (q49 : ab_ri h 550 (((24 * r.toInt) + (j : Int))) ≠ s.toInt) => ?_) (fun (q49 : ab_ri h 550 (((24 * r.toInt) + (j : Int))) = s.toInt) => ?_)
      · refine mc_cx hmi 1 (F' := (63, [(0, .ref 542), (1, .int r), (2, .int s), (3, .int z), (4, .int a), (5, .int i)], [.int (Int32.ofInt 0), .int a], h, n, 0, 0)) (by with_unfolding_all rfl) ?_
        exact key _ (by rw [if_neg (fun q => q49 q.1)]; decide)
      · refine mc_cx hmi 1 (F' := (36, [(0, .ref 542), (1, .int r), (2, .int s), (3, .int z), (4, .int a), (5, .int i)], [.ref 542, .int a], h, n, 0, 0)) (by with_unfolding_all rfl) ?_
        refine mc_getr hmi H (k := 542) (c := 550) (pc' := 39) rfl rfl rfl rfl rfl ?_
        refine mc_cx hmi 4 (F' := (44, [(0, .ref 542), (1, .int r), (2, .int s), (3, .int z), (4, .int a), (5, .int i)], [.ref 542, .int ((Int8.ofInt 24).toInt32 * r), .ref 550, .int a], h, n, 0, 0)) (by with_unfolding_all rfl) ?_
        have e50 : ((Int8.ofInt 24).toInt32 * r).toInt = 24 * r.toInt := mc_mul (by decide) rfl (by omega) (by omega)
        refine mc_getr hmi H (k := 542) (c := 549) (pc' := 47) rfl rfl rfl rfl rfl ?_
        refine mc_cx hmi 1 (F' := (48, [(0, .ref 542), (1, .int r), (2, .int s), (3, .int z), (4, .int a), (5, .int i)], [.int r, .ref 549, .int ((Int8.ofInt 24).toInt32 * r), .ref 550, .int a], h, n, 0, 0)) (by with_unfolding_all rfl) ?_
        refine mc_iald hmi H (k := 549) (i := r.toInt) (pc' := 49) rfl rfl rfl rfl (by omega) (by omega) rfl (fun y51 e52 r53 r54 => ?_)
        rw [e52] at r53 r54
        refine mc_cx hmi 1 (F' := (51, [(0, .ref 542), (1, .int r), (2, .int s), (3, .int z), (4, .int a), (5, .int i)], [.int i, .int y51, .int ((Int8.ofInt 24).toInt32 * r), .ref 550, .int a], h, n, 0, 0)) (by with_unfolding_all rfl) ?_
        refine mc_callP hmi (en := (51, .invokestatic 145, 3, (3, 165, 0, 0), [1329, 1328])) rfl (q := (mt_X11_isTaken, [.ref 550, .int ((Int8.ofInt 24).toInt32 * r), .int y51, .int i], [.int a])) (by with_unfolding_all rfl) ⟨rfl, rfl⟩ (pc' := 54) rfl (mc_isTaken_550 hd H ((Int8.ofInt 24).toInt32 * r) y51 i (by rw [e50]; omega) (by rw [hi]; omega) (by rw [hi, e52]; omega) (by rw [e50, e52]; omega)) (fun y55 e56 => ?_)
        rw [e50, e52, hi, show (ab_ri h 549 r.toInt - (j : Int) - 1).toNat = (ab_ri h 549 r.toInt).toNat - j - 1 by omega] at e56
        refine mc_cx hmi 1 (F' := (55, [(0, .ref 542), (1, .int r), (2, .int s), (3, .int z), (4, .int a), (5, .int i)], [.int z, .int y55, .int a], h, n, 0, 0)) (by with_unfolding_all rfl) ?_
        have ht : ∀ b : Bool, tk (ab_ri h 550) (ab_ri h 550 (24 * r.toInt + (j : Int))) ((ab_ri h 549 r.toInt).toNat - j - 1) (24 * r.toInt + (j : Int) + 1) = b → (y55.toInt = z.toInt ↔ b = decide (z.toInt = 1)) := by
          intro b hb
          rw [e56, hb]
          rcases hz with hz | hz <;> rw [hz] <;> cases b <;> decide
        refine mc_ci hmi (c := .ne) (tg := 62) (pc' := 58) rfl rfl rfl rfl rfl (fun (q57 : y55.toInt ≠ z.toInt) => ?_) (fun (q57 : y55.toInt = z.toInt) => ?_)
        · refine mc_cx hmi 1 (F' := (63, [(0, .ref 542), (1, .int r), (2, .int s), (3, .int z), (4, .int a), (5, .int i)], [.int (Int32.ofInt 0), .int a], h, n, 0, 0)) (by with_unfolding_all rfl) ?_
          exact key _ (by rw [if_neg (fun q => q57 ((ht _ rfl).mpr q.2))]; decide)
        · refine mc_cx hmi 2 (F' := (63, [(0, .ref 542), (1, .int r), (2, .int s), (3, .int z), (4, .int a), (5, .int i)], [.int (Int32.ofInt 1), .int a], h, n, 0, 0)) (by with_unfolding_all rfl) ?_
          exact key _ (by rw [if_pos ⟨q49, (ht _ rfl).mp q57⟩]; decide)
theorem mc_poured {l : Launch} {G : ax_T} {d : Nat} (hd : 2 ≤ d) {h : ax_H} {n : Nat} (H : mc_HW h n) (r s z : Int32) (hr0 : 0 ≤ r.toInt) (hr1 : r.toInt ≤ 11) (hz : z.toInt = 0 ∨ z.toInt = 1) : mc_M l G d mt_X11_poured [.ref 542, .int r, .int s, .int z] h n (mc_P h n fun y => y.toInt = PT h r.toInt s.toInt z.toInt) := by
  obtain ⟨d, rfl⟩ : ∃ e, d = e + 1 := ⟨d - 1, by omega⟩
  have hmi : mt_X11_poured ∈ mt_prog := List.mem_of_getElem? mi_X11_poured
  refine mc_to hmi rfl ?_
  show mc_R _ _ _ _ _ (0, [(0, .ref 542), (1, .int r), (2, .int s), (3, .int z)], [], h, n, 0, 0)
  refine mc_cx hmi 4 (F' := (6, [(5, .int (Int32.ofInt 0)), (4, .int (Int32.ofInt 0)), (0, .ref 542), (1, .int r), (2, .int s), (3, .int z)], [], h, n, 0, 0)) (by with_unfolding_all rfl) ?_
  refine mc_lvs (lv' := [(0, .ref 542), (1, .int r), (2, .int s), (3, .int z), (4, .int (Int32.ofInt 0)), (5, .int (Int32.ofInt 0))]) (by simp) ?_
  exact po_loop (by omega) H r s z hr0 hr1 hz _ 0 _ _ (Nat.zero_add _) rfl rfl
