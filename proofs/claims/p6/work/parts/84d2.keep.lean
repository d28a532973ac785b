/-! ===== a custom is read into its cells, in the class (ways printed by wip/v2/mk84i.py) ===== -/
theorem mc_getrC {l : Launch} {G : ax_T} {mi : ax_MI} {d : Nat} {Q : Option Value → ax_H → Nat → Prop} {pc pc' : Nat} {lv : List (Nat × Value)} {st : List Value} {h : ax_H} {n : Nat} (hmi : mi ∈ mt_prog) (H : mc_HW h n) {k c idx e ci j M : Nat} {z : Int} {hs : List Nat} (ha : ax_at mi.2.2.2.2.2.2.2.2 pc = some (pc, .getfield idx, 3, (e, ci, j, z), hs)) (hk : Nat.blt k 573 = true) (hf : mc_ft k j = some (ci, .inr (some M))) (hr : ab_rd h k (j : Int) = some (.ref c)) (hp : pc + 3 = pc') (hR : mc_R l G mi d Q (pc', lv, .ref c :: st, h, n, 0, 0)) : mc_R l G mi d Q (pc, lv, .ref k :: st, h, n, 0, 0) := by
  subst hp
  obtain ⟨fs, v, h1, h2, -, h5⟩ := mc_fld H hk hf
  have e : v = .ref c := Option.some.inj (h5.symm.trans hr)
  subst e
  refine mc_stp hmi ha ?_ hR
  simp only [ax_step, ax_s_getf, h1, h2, beq_self_eq_true, cond_true, Option.map_some]
theorem mc_aaldC {l : Launch} {G : ax_T} {mi : ax_MI} {d : Nat} {Q : Option Value → ax_H → Nat → Prop} {pc pc' : Nat} {lv : List (Nat × Value)} {st : List Value} {h : ax_H} {n : Nat} (hmi : mi ∈ mt_prog) (H : mc_HW h n) {k c t N : Nat} {τ : ab_Y} {σ : List ab_Y} {hs : List Nat} {pe : ax_PE} {x : Int32} {i : Int} (ha : ax_at mi.2.2.2.2.2.2.2.2 pc = some (pc, .aaload, 1, pe, hs)) (hk : Nat.blt k 573 = true) (hf : ab_K[ab_k k]? = some (.inl (t, N, N, τ, σ))) (ht : (ax_tc t).isSome = true) (hx : x.toInt = i) (h0 : 0 ≤ i) (hN : i < N) (hr : ab_rd h k i = some (.ref c)) (hp : pc + 1 = pc') (hR : mc_R l G mi d Q (pc', lv, .ref c :: st, h, n, 0, 0)) : mc_R l G mi d Q (pc, lv, .int x :: .ref k :: st, h, n, 0, 0) := by
  subst hp
  have hk' : k < 573 := by simpa [Nat.blt_eq] using hk
  obtain ⟨dd, S, h1, h2, h3⟩ := H.2.1 k (Nat.lt_of_lt_of_le hk' H.1)
  rw [hf] at h2
  cases h2
  have hc := mc_clamp (x := x) (by omega)
  rcases dd with ⟨t', M, f | f⟩ | ⟨c', fs⟩
  · exfalso
    unfold ab_rd at hr
    rw [h1] at hr
    simp only [decide_eq_false (show ¬ i < 0 by omega), cond_false] at hr
    cases hr
  · obtain ⟨rfl, b2, b3, b4, b5, b6, b7⟩ := h3
    obtain rfl : M = N := by omega
    unfold ab_rd at hr
    rw [h1] at hr
    simp only [decide_eq_false (show ¬ i < 0 by omega), cond_false] at hr
    obtain ⟨q, hq, hq2⟩ := Option.map_eq_some_iff.mp hr
    cases hq2
    obtain ⟨y, hy⟩ := Option.isSome_iff_exists.mp ht
    rw [show i.toNat = x.toNatClampNeg by omega] at hq
    refine mc_stp hmi ha ?_ hR
    simp only [ax_step, ax_s_aald, h1, hy, mc_in (x := x) (N := M) (by omega) (by omega), cond_true, hq, Option.map_some]
  · exact h3.elim
/-- the cells of a custom: the object and its three arrays -/
def pg_cu (h : ax_H) (cu c0 c1 c2 : Nat) : Prop := (Nat.blt cu 573 = true ∧ Nat.blt c0 573 = true ∧ Nat.blt c1 573 = true ∧ Nat.blt c2 573 = true) ∧ (mc_ft cu 0 = some (1, .inr (some 32)) ∧ mc_ft cu 1 = some (1, .inr (some 64)) ∧ mc_ft cu 2 = some (1, .inr (some 128))) ∧ (ab_K[ab_k c0]? = some (.inl (0, 14, 14, .inl (-48, 207, 0), [])) ∧ ab_K[ab_k c1]? = some (.inl (0, 14, 14, .inl (-2147483648, 2147483647, 0), [])) ∧ ab_K[ab_k c2]? = some (.inl (0, 14, 14, .inl (-2147483648, 2147483647, 0), []))) ∧ (c0 ≠ c1 ∧ c0 ≠ c2 ∧ c1 ≠ c2 ∧ cu ≠ c0 ∧ cu ≠ c1 ∧ cu ≠ c2) ∧ (c0 ≠ 1 ∧ c1 ≠ 1 ∧ c2 ≠ 1 ∧ c0 ≠ 2 ∧ c1 ≠ 2 ∧ c2 ≠ 2) ∧ (ab_rd h cu 0 = some (.ref c0) ∧ ab_rd h cu 1 = some (.ref c1) ∧ ab_rd h cu 2 = some (.ref c2))
theorem pg_cu_of {h h' : ax_H} {cu c0 c1 c2 : Nat} (u : pg_cu h cu c0 c1 c2) (f : ∀ (k' : Nat) (i' : Int), k' ≠ c0 → k' ≠ c1 → k' ≠ c2 → ab_rd h' k' i' = ab_rd h k' i') : pg_cu h' cu c0 c1 c2 := by
  obtain ⟨u1, u2, u3, u4, u5, u6⟩ := u
  exact ⟨u1, u2, u3, u4, u5, (f cu 0 u4.2.2.2.1 u4.2.2.2.2.1 u4.2.2.2.2.2).trans u6.1, (f cu 1 u4.2.2.2.1 u4.2.2.2.2.1 u4.2.2.2.2.2).trans u6.2.1, (f cu 2 u4.2.2.2.1 u4.2.2.2.2.1 u4.2.2.2.2.2).trans u6.2.2⟩
def kp_Q (h : ax_H) (n : Nat) (c0 c1 c2 : Nat) (f : Int → Int) (j : Nat) : Option Value → ax_H → Nat → Prop := fun r' h' n' => n' = n ∧ r' = none ∧ mc_HW h' n ∧ pg_K h' c0 c1 c2 0 f j ∧ ∀ (k' : Nat) (i' : Int), k' ≠ c0 → k' ≠ c1 → k' ≠ c2 → ab_rd h' k' i' = ab_rd h k' i'
set_option maxRecDepth 100000 in
theorem mc_keep {l : Launch} {G : ax_T} {d : Nat} {h : ax_H} {n : Nat} (hd : 11 ≤ d) (H : mc_HW h n) {cu c0 c1 c2 : Nat} (u : pg_cu h cu c0 c1 c2) {f : Int → Int} {j : Nat} (K : pg_K h c0 c1 c2 0 f j) (S x : Int32) (hS : S.toInt = pg_run f (j + 1)) (hne : pg_run f (j + 1) ≠ -1) (hx : x.toInt = f (j : Int)) (x0 : 0 ≤ x.toInt) (x1 : x.toInt ≤ 255) : mc_M l G d mt_X6_keep [.int S, .int x, .ref cu] h n (kp_Q h n c0 c1 c2 f (j + 1)) := by
  obtain ⟨d, rfl⟩ : ∃ e, d = e + 1 := ⟨d - 1, by omega⟩
  have hmi : mt_X6_keep ∈ mt_prog := List.mem_of_getElem? mi_X6_keep
  have hr := pg_run_r f (j + 1)
  obtain ⟨u1, u2, u3, u4, u5, u6⟩ := u
  refine mc_to hmi rfl ?_
  show mc_R _ _ _ _ _ (0, [(0, .int S), (1, .int x), (2, .ref cu)], [], h, n, 0, 0)
  refine mc_cx hmi 7 (F' := (8, [(3, .int (S >>> ((Int32.ofInt 3) &&& 31))), (0, .int S), (1, .int x), (2, .ref cu)], [.int (S &&& (Int8.ofInt 7).toInt32)], h, n, 0, 0)) (by with_unfolding_all rfl) ?_
  have hp := pg_and7 (x := S) (by omega) (by omega)
  have hs := pg_shr3 (x := S) (by omega) (by omega)
  rw [hS] at hp hs
  generalize (S &&& (Int8.ofInt 7).toInt32) = p at hp ⊢
  generalize (S >>> ((Int32.ofInt 3) &&& 31)) = s at hs ⊢
  show mc_R _ _ _ _ _ (8, [(3, .int s), (0, .int S), (1, .int x), (2, .ref cu)], [.int p], h, n, 0, 0)
  obtain ⟨g, hg, hge⟩ : ∃ g : Nat, g < 14 ∧ (g : Int) = s.toInt := ⟨s.toInt.toNat, by omega, by omega⟩
  have hsv : s.toInt = (g : Int) := hge.symm
  have hpv : p.toInt = 0 ∨ p.toInt = 1 ∨ p.toInt = 2 ∨ p.toInt = 3 ∨ p.toInt = 4 ∨ p.toInt = 5 ∨ p.toInt = 6 := by omega
  rcases hpv with e | e | e | e | e | e | e
  · obtain rfl : p = Int32.ofInt 0 := Int32.toInt_inj.mp (by rw [e]; rfl)
    show mc_R _ _ _ _ _ (8, [(3, .int s), (0, .int S), (1, .int x), (2, .ref cu)], [.int (Int32.ofInt 0)], h, n, 0, 0)
    rw [e] at hp
    refine mc_cx hmi 1 (F' := (93, [(3, .int s), (0, .int S), (1, .int x), (2, .ref cu)], [], h, n, 0, 0)) (by with_unfolding_all rfl) ?_
    exact mc_ret hmi rfl rfl rfl ⟨rfl, rfl, H, pg_K_same (by omega) (by omega) (by omega) K, fun _ _ _ _ _ => rfl⟩
  · obtain rfl : p = Int32.ofInt 1 := Int32.toInt_inj.mp (by rw [e]; rfl)
    show mc_R _ _ _ _ _ (8, [(3, .int s), (0, .int S), (1, .int x), (2, .ref cu)], [.int (Int32.ofInt 1)], h, n, 0, 0)
    rw [e] at hp
    refine mc_cx hmi 1 (F' := (93, [(3, .int s), (0, .int S), (1, .int x), (2, .ref cu)], [], h, n, 0, 0)) (by with_unfolding_all rfl) ?_
    exact mc_ret hmi rfl rfl rfl ⟨rfl, rfl, H, pg_K_same (by omega) (by omega) (by omega) K, fun _ _ _ _ _ => rfl⟩
  · obtain rfl : p = Int32.ofInt 2 := Int32.toInt_inj.mp (by rw [e]; rfl)
    show mc_R _ _ _ _ _ (8, [(3, .int s), (0, .int S), (1, .int x), (2, .ref cu)], [.int (Int32.ofInt 2)], h, n, 0, 0)
    rw [e] at hp
    refine mc_cx hmi 1 (F' := (44, [(3, .int s), (0, .int S), (1, .int x), (2, .ref cu)], [], h, n, 0, 0)) (by with_unfolding_all rfl) ?_
    have hrv : pg_run f (j + 1) = 2 + 8 * (g : Int) := by omega
    refine mc_cx hmi 1 (F' := (45, [(3, .int s), (0, .int S), (1, .int x), (2, .ref cu)], [.ref cu], h, n, 0, 0)) (by with_unfolding_all rfl) ?_
    refine mc_getrC hmi H (k := cu) (j := 0) (pc' := 48) rfl u1.1 u2.1 u6.1 rfl ?_
    refine mc_cx hmi 4 (F' := (53, [(3, .int s), (0, .int S), (1, .int x), (2, .ref cu)], [.int (x - (Int8.ofInt 48).toInt32), .int s, .ref c0], h, n, 0, 0)) (by with_unfolding_all rfl) ?_
    have ev : (x - (Int8.ofInt 48).toInt32).toInt = f (j : Int) - 48 := mc_sub hx (by decide) (by omega) (by omega)
    refine mc_iast hmi H (k := c0) (i := (g : Int)) (pc' := 54) rfl u1.2.1 u3.1 hsv (by omega) (by omega) (by rw [ev]; omega) (by rw [ev]; omega) rfl (fun h2 H2 w2 => ?_)
    refine mc_cx hmi 1 (F' := (93, [(3, .int s), (0, .int S), (1, .int x), (2, .ref cu)], [], h2, n, 0, 0)) (by with_unfolding_all rfl) ?_
    refine mc_ret hmi rfl rfl rfl ⟨rfl, rfl, H2, pg_K_put0 (v := (x - (Int8.ofInt 48).toInt32)) hg hrv u4.1.symm u4.2.1.symm ?_ (by rw [Int.zero_add]; exact w2) K, fun k' i' p1 p2 p3 => by rw [w2, if_neg (fun q => p1 q.1)]⟩
    refine Int32.toInt_inj.mp ?_
    rw [ev, Int32.toInt_ofInt_of_le (by omega) (by omega)]
  · obtain rfl : p = Int32.ofInt 3 := Int32.toInt_inj.mp (by rw [e]; rfl)
    show mc_R _ _ _ _ _ (8, [(3, .int s), (0, .int S), (1, .int x), (2, .ref cu)], [.int (Int32.ofInt 3)], h, n, 0, 0)
    rw [e] at hp
    refine mc_cx hmi 1 (F' := (93, [(3, .int s), (0, .int S), (1, .int x), (2, .ref cu)], [], h, n, 0, 0)) (by with_unfolding_all rfl) ?_
    exact mc_ret hmi rfl rfl rfl ⟨rfl, rfl, H, pg_K_same (by omega) (by omega) (by omega) K, fun _ _ _ _ _ => rfl⟩
  · obtain rfl : p = Int32.ofInt 4 := Int32.toInt_inj.mp (by rw [e]; rfl)
    show mc_R _ _ _ _ _ (8, [(3, .int s), (0, .int S), (1, .int x), (2, .ref cu)], [.int (Int32.ofInt 4)], h, n, 0, 0)
    rw [e] at hp
    refine mc_cx hmi 1 (F' := (93, [(3, .int s), (0, .int S), (1, .int x), (2, .ref cu)], [], h, n, 0, 0)) (by with_unfolding_all rfl) ?_
    exact mc_ret hmi rfl rfl rfl ⟨rfl, rfl, H, pg_K_same (by omega) (by omega) (by omega) K, fun _ _ _ _ _ => rfl⟩
  · obtain rfl : p = Int32.ofInt 5 := Int32.toInt_inj.mp (by rw [e]; rfl)
    show mc_R _ _ _ _ _ (8, [(3, .int s), (0, .int S), (1, .int x), (2, .ref cu)], [.int (Int32.ofInt 5)], h, n, 0, 0)
    rw [e] at hp
    refine mc_cx hmi 1 (F' := (57, [(3, .int s), (0, .int S), (1, .int x), (2, .ref cu)], [], h, n, 0, 0)) (by with_unfolding_all rfl) ?_
    have hrv : pg_run f (j + 1) = 5 + 8 * (g : Int) := by omega
    refine mc_cx hmi 1 (F' := (58, [(3, .int s), (0, .int S), (1, .int x), (2, .ref cu)], [.ref cu], h, n, 0, 0)) (by with_unfolding_all rfl) ?_
    refine mc_getrC hmi H (k := cu) (j := 1) (pc' := 61) rfl u1.1 u2.2.1 u6.2.1 rfl ?_
    refine mc_cx hmi 2 (F' := (63, [(3, .int s), (0, .int S), (1, .int x), (2, .ref cu)], [.int s, .ref c1, .int s, .ref c1], h, n, 0, 0)) (by with_unfolding_all rfl) ?_
    refine mc_iald hmi H (k := c1) (i := (g : Int)) (pc' := 64) rfl u1.2.2.1 u3.2.1 hsv (by omega) (by omega) rfl (fun y ey r1 r2 => ?_)
    have hold : y = pg_kb 5 f j g := by
      refine Int32.toInt_inj.mp ?_
      rw [ey]
      have := ri_of (K g hg).2.1
      rw [Int.zero_add] at this
      exact this
    refine mc_cx hmi 2 (F' := (66, [(3, .int s), (0, .int S), (1, .int x), (2, .ref cu)], [.int x, .int (Int32.ofInt 1), .int y, .int s, .ref c1], h, n, 0, 0)) (by with_unfolding_all rfl) ?_
    refine mc_callP hmi (en := (66, .invokestatic 41, 3, (4, 150, 0, 0), [497, 496])) rfl (q := (mt_X10_signOf, [.int x], [.int (Int32.ofInt 1), .int y, .int s, .ref c1])) (by with_unfolding_all rfl) ⟨rfl, rfl⟩ (pc' := 69) rfl (mc_sgn x (by omega) x0 x1) (fun y101 e102 => ?_)
    have hsx : y101 = Int32.ofInt (pg_s (f (j : Int))) := by rw [← hx, ← e102, Int32.ofInt_toInt]
    refine mc_cx hmi 2 (F' := (71, [(3, .int s), (0, .int S), (1, .int x), (2, .ref cu)], [.int (y ||| ((Int32.ofInt 1) <<< (y101 &&& 31))), .int s, .ref c1], h, n, 0, 0)) (by with_unfolding_all rfl) ?_
    have b1 := Int32.le_toInt (y ||| ((Int32.ofInt 1) <<< (y101 &&& 31)))
    have b2 := Int32.toInt_lt (y ||| ((Int32.ofInt 1) <<< (y101 &&& 31)))
    refine mc_iast hmi H (k := c1) (i := (g : Int)) (pc' := 72) rfl u1.2.2.1 u3.2.1 hsv (by omega) (by omega) (by omega) (by omega) rfl (fun h2 H2 w2 => ?_)
    refine mc_cx hmi 1 (F' := (93, [(3, .int s), (0, .int S), (1, .int x), (2, .ref cu)], [], h2, n, 0, 0)) (by with_unfolding_all rfl) ?_
    refine mc_ret hmi rfl rfl rfl ⟨rfl, rfl, H2, pg_K_put1 (v := (y ||| ((Int32.ofInt 1) <<< (y101 &&& 31)))) hg hrv u4.1 u4.2.2.1.symm ?_ (by rw [Int.zero_add]; exact w2) K, fun k' i' p1 p2 p3 => by rw [w2, if_neg (fun q => p2 q.1)]⟩
    rw [hold, hsx]
  · obtain rfl : p = Int32.ofInt 6 := Int32.toInt_inj.mp (by rw [e]; rfl)
    show mc_R _ _ _ _ _ (8, [(3, .int s), (0, .int S), (1, .int x), (2, .ref cu)], [.int (Int32.ofInt 6)], h, n, 0, 0)
    rw [e] at hp
    refine mc_cx hmi 1 (F' := (75, [(3, .int s), (0, .int S), (1, .int x), (2, .ref cu)], [], h, n, 0, 0)) (by with_unfolding_all rfl) ?_
    have hrv : pg_run f (j + 1) = 6 + 8 * (g : Int) := by omega
    refine mc_cx hmi 1 (F' := (76, [(3, .int s), (0, .int S), (1, .int x), (2, .ref cu)], [.ref cu], h, n, 0, 0)) (by with_unfolding_all rfl) ?_
    refine mc_getrC hmi H (k := cu) (j := 2) (pc' := 79) rfl u1.1 u2.2.2 u6.2.2 rfl ?_
    refine mc_cx hmi 2 (F' := (81, [(3, .int s), (0, .int S), (1, .int x), (2, .ref cu)], [.int s, .ref c2, .int s, .ref c2], h, n, 0, 0)) (by with_unfolding_all rfl) ?_
    refine mc_iald hmi H (k := c2) (i := (g : Int)) (pc' := 82) rfl u1.2.2.2 u3.2.2 hsv (by omega) (by omega) rfl (fun y ey r1 r2 => ?_)
    have hold : y = pg_kb 6 f j g := by
      refine Int32.toInt_inj.mp ?_
      rw [ey]
      have := ri_of (K g hg).2.2
      rw [Int.zero_add] at this
      exact this
    refine mc_cx hmi 2 (F' := (84, [(3, .int s), (0, .int S), (1, .int x), (2, .ref cu)], [.int x, .int (Int32.ofInt 1), .int y, .int s, .ref c2], h, n, 0, 0)) (by with_unfolding_all rfl) ?_
    refine mc_callP hmi (en := (84, .invokestatic 41, 3, (4, 150, 0, 0), [497, 496])) rfl (q := (mt_X10_signOf, [.int x], [.int (Int32.ofInt 1), .int y, .int s, .ref c2])) (by with_unfolding_all rfl) ⟨rfl, rfl⟩ (pc' := 87) rfl (mc_sgn x (by omega) x0 x1) (fun y103 e104 => ?_)
    have hsx : y103 = Int32.ofInt (pg_s (f (j : Int))) := by rw [← hx, ← e104, Int32.ofInt_toInt]
    refine mc_cx hmi 2 (F' := (89, [(3, .int s), (0, .int S), (1, .int x), (2, .ref cu)], [.int (y ||| ((Int32.ofInt 1) <<< (y103 &&& 31))), .int s, .ref c2], h, n, 0, 0)) (by with_unfolding_all rfl) ?_
    have b1 := Int32.le_toInt (y ||| ((Int32.ofInt 1) <<< (y103 &&& 31)))
    have b2 := Int32.toInt_lt (y ||| ((Int32.ofInt 1) <<< (y103 &&& 31)))
    refine mc_iast hmi H (k := c2) (i := (g : Int)) (pc' := 90) rfl u1.2.2.2 u3.2.2 hsv (by omega) (by omega) (by omega) (by omega) rfl (fun h2 H2 w2 => ?_)
    refine mc_cx hmi 1 (F' := (93, [(3, .int s), (0, .int S), (1, .int x), (2, .ref cu)], [], h2, n, 0, 0)) (by with_unfolding_all rfl) ?_
    refine mc_ret hmi rfl rfl rfl ⟨rfl, rfl, H2, pg_K_put2 (v := (y ||| ((Int32.ofInt 1) <<< (y103 &&& 31)))) hg hrv u4.2.1 u4.2.2.1 ?_ (by rw [Int.zero_add]; exact w2) K, fun k' i' p1 p2 p3 => by rw [w2, if_neg (fun q => p3 q.1)]⟩
    rw [hold, hsx]
set_option maxRecDepth 100000 in
theorem rd_loop {l : Launch} {G : ax_T} {d : Nat} {h : ax_H} {n : Nat} (hd : 11 ≤ d) (H : mc_HW h n) {cu c0 c1 c2 : Nat} (hall : pg_run (ab_ri h 2) (ab_ri h 1 1).toNat ≠ -1) : ∀ (c j : Nat) (h2 : ax_H) (s i : Int32), (j : Int) + (c : Int) = ab_ri h 1 1 → i.toInt = (j : Int) → s.toInt = pg_run (ab_ri h 2) j → mc_HW h2 n → pg_cu h2 cu c0 c1 c2 → pg_K h2 c0 c1 c2 0 (ab_ri h 2) j → (∀ (k' : Nat) (i' : Int), k' ≠ c0 → k' ≠ c1 → k' ≠ c2 → ab_rd h2 k' i' = ab_rd h k' i') → mc_R l G mt_X6_read d (kp_Q h n c0 c1 c2 (ab_ri h 2) (ab_ri h 1 1).toNat) (4, [(0, .ref 1), (1, .ref cu), (2, .int s), (3, .int i)], [], h2, n, 0, 0) := by
  have hmi : mt_X6_read ∈ mt_prog := List.mem_of_getElem? mi_X6_read
  have hlen : 0 ≤ ab_ri h 1 1 ∧ ab_ri h 1 1 ≤ 80 := mc_frng H (k := 1) (j := 1) (ci := 4) rfl rfl
  intro c
  induction c with
  | zero =>
    intro j h2 s i hj hi hs H2 u K hf
    have hu := u.2.2.2.2.1
    have hl2 : ab_ri h2 1 1 = ab_ri h 1 1 := ab_ri_of (hf 1 1 hu.1.symm hu.2.1.symm hu.2.2.1.symm)
    refine mc_cx hmi 2 (F' := (6, [(0, .ref 1), (1, .ref cu), (2, .int s), (3, .int i)], [.ref 1, .int i], h2, n, 0, 0)) (by with_unfolding_all rfl) ?_
    refine mc_geti hmi H2 (k := 1) (j := 1) (pc' := 9) rfl rfl rfl rfl (fun y105 (e106 : y105.toInt = ab_ri h2 1 1) r107 r108 => ?_)
    rw [e106] at r107 r108
    refine mc_ci hmi (c := .ge) (tg := 50) (pc' := 12) rfl rfl rfl hi e106 (fun (q109 : ab_ri h2 1 1 ≤ (j : Int)) => ?_) (fun (q109 : (j : Int) < ab_ri h2 1 1) => ?_)
    · have e : (ab_ri h 1 1).toNat = j := by omega
      exact mc_ret hmi rfl rfl rfl ⟨rfl, rfl, H2, by rw [e]; exact K, hf⟩
    · exact absurd q109 (by omega)
  | succ c ih =>
    intro j h2 s i hj hi hs H2 u K hf
    have hu := u.2.2.2.2.1
    have hl2 : ab_ri h2 1 1 = ab_ri h 1 1 := ab_ri_of (hf 1 1 hu.1.symm hu.2.1.symm hu.2.2.1.symm)
    refine mc_cx hmi 2 (F' := (6, [(0, .ref 1), (1, .ref cu), (2, .int s), (3, .int i)], [.ref 1, .int i], h2, n, 0, 0)) (by with_unfolding_all rfl) ?_
    refine mc_geti hmi H2 (k := 1) (j := 1) (pc' := 9) rfl rfl rfl rfl (fun y110 (e111 : y110.toInt = ab_ri h2 1 1) r112 r113 => ?_)
    rw [e111] at r112 r113
    refine mc_ci hmi (c := .ge) (tg := 50) (pc' := 12) rfl rfl rfl hi e111 (fun (q114 : ab_ri h2 1 1 ≤ (j : Int)) => ?_) (fun (q114 : (j : Int) < ab_ri h2 1 1) => ?_)
    · exact absurd q114 (by omega)
    · have hnj : pg_run (ab_ri h 2) j ≠ -1 := fun z => hall (by have := pg_run_dead (ab_ri h 2) z ((ab_ri h 1 1).toNat - j); rw [show j + ((ab_ri h 1 1).toNat - j) = (ab_ri h 1 1).toNat by omega] at this; exact this)
      have hnj1 : pg_run (ab_ri h 2) (j + 1) ≠ -1 := fun z => hall (by have := pg_run_dead (ab_ri h 2) z ((ab_ri h 1 1).toNat - (j + 1)); rw [show j + 1 + ((ab_ri h 1 1).toNat - (j + 1)) = (ab_ri h 1 1).toNat by omega] at this; exact this)
      have hr := pg_run_r (ab_ri h 2) j
      have hr1 := pg_run_r (ab_ri h 2) (j + 1)
      refine mc_cx hmi 2 (F' := (14, [(0, .ref 1), (1, .ref cu), (2, .int s), (3, .int i)], [.int (Int32.ofInt (-1)), .int s], h2, n, 0, 0)) (by with_unfolding_all rfl) ?_
      refine mc_ci hmi (c := .eq) (tg := 50) (pc' := 17) rfl rfl rfl hs (by decide) (fun (q115 : pg_run (ab_ri h 2) j = (-1)) => ?_) (fun (q115 : pg_run (ab_ri h 2) j ≠ (-1)) => ?_)
      · exact absurd q115 hnj
      · have hpg : ab_ri h2 2 (j : Int) = (ab_ri h 2) (j : Int) := ab_ri_of (hf 2 _ hu.2.2.2.1.symm hu.2.2.2.2.1.symm hu.2.2.2.2.2.symm)
        refine mc_cx hmi 2 (F' := (19, [(0, .ref 1), (1, .ref cu), (2, .int s), (3, .int i)], [.ref 1, .int s], h2, n, 0, 0)) (by with_unfolding_all rfl) ?_
        refine mc_getr hmi H2 (k := 1) (c := 2) (pc' := 22) rfl rfl rfl rfl rfl ?_
        refine mc_cx hmi 1 (F' := (23, [(0, .ref 1), (1, .ref cu), (2, .int s), (3, .int i)], [.int i, .ref 2, .int s], h2, n, 0, 0)) (by with_unfolding_all rfl) ?_
        refine mc_iald hmi H2 (k := 2) (i := (j : Int)) (pc' := 24) rfl rfl rfl hi (by omega) (by omega) rfl (fun y116 e117 r118 r119 => ?_)
        rw [e117] at r118 r119
        have hx := mc_rng H2 (k := 2) (N := 80) (lo := 0) (hi := 255) rfl rfl (i := (j : Int)) (by omega) (by omega)
        refine mc_callP hmi (en := (24, .invokestatic 21, 3, (3, 67, 0, 0), [481, 480])) rfl (q := (mt_X6_after, [.int s, .int y116], [])) (by with_unfolding_all rfl) ⟨rfl, rfl⟩ (pc' := 27) rfl (mc_ruleAfter (by omega) s y116 (by omega) (by omega) (by omega) (by omega) (by omega)) (fun y120 e121 => ?_)
        have hst : y120.toInt = pg_run (ab_ri h 2) (j + 1) := by
          rw [e121, e117, hs, hpg]
          show _ = (if pg_run (ab_ri h 2) j = -1 then -1 else pg_after (pg_run (ab_ri h 2) j) ((ab_ri h 2) (j : Int)))
          rw [if_neg hnj]
        refine mc_cx hmi 3 (F' := (30, [(2, .int y120), (0, .ref 1), (1, .ref cu), (3, .int i)], [.int (Int32.ofInt (-1)), .int y120], h2, n, 0, 0)) (by with_unfolding_all rfl) ?_
        refine mc_ci hmi (c := .eq) (tg := 44) (pc' := 33) rfl rfl rfl hst (by decide) (fun (q122 : pg_run (ab_ri h 2) (j + 1) = (-1)) => ?_) (fun (q122 : pg_run (ab_ri h 2) (j + 1) ≠ (-1)) => ?_)
        · exact absurd q122 hnj1
        · refine mc_cx hmi 2 (F' := (35, [(2, .int y120), (0, .ref 1), (1, .ref cu), (3, .int i)], [.ref 1, .int y120], h2, n, 0, 0)) (by with_unfolding_all rfl) ?_
          refine mc_getr hmi H2 (k := 1) (c := 2) (pc' := 38) rfl rfl rfl rfl rfl ?_
          refine mc_cx hmi 1 (F' := (39, [(2, .int y120), (0, .ref 1), (1, .ref cu), (3, .int i)], [.int i, .ref 2, .int y120], h2, n, 0, 0)) (by with_unfolding_all rfl) ?_
          refine mc_iald hmi H2 (k := 2) (i := (j : Int)) (pc' := 40) rfl rfl rfl hi (by omega) (by omega) rfl (fun y123 e124 r125 r126 => ?_)
          rw [e124] at r125 r126
          refine mc_cx hmi 1 (F' := (41, [(2, .int y120), (0, .ref 1), (1, .ref cu), (3, .int i)], [.ref cu, .int y123, .int y120], h2, n, 0, 0)) (by with_unfolding_all rfl) ?_
          refine mc_call hmi (en := (41, .invokestatic 29, 3, (3, 65, 0, 0), [599, 598])) rfl (q := (mt_X6_keep, [.int y120, .int y123, .ref cu], [])) (by with_unfolding_all rfl) ⟨rfl, rfl⟩ (pc' := 44) rfl (mc_mono (mc_keep (by omega) H2 u K y120 y123 hst hnj1 (by rw [e124, hpg]) (by omega) (by omega)) ?_)
          intro r3 h3 n3 P3
          obtain ⟨e1, e2, H3, K3, f3⟩ := P3
          rw [e1, e2]
          show mc_R _ _ _ _ _ (44, [(2, .int y120), (0, .ref 1), (1, .ref cu), (3, .int i)], [], h3, n, 0, 0)
          refine mc_cx hmi 2 (F' := (4, [(3, .int (i + Int32.ofInt 1)), (2, .int y120), (0, .ref 1), (1, .ref cu)], [], h3, n, 0, 0)) (by with_unfolding_all rfl) ?_
          have e127 : (i + Int32.ofInt 1).toInt = (j : Int) + 1 := mc_add hi (by decide) (by omega) (by omega)
          refine mc_lvs (lv' := [(0, .ref 1), (1, .ref cu), (2, .int y120), (3, .int (i + Int32.ofInt 1))]) (by simp) ?_
          exact ih (j + 1) h3 y120 (i + Int32.ofInt 1) (by omega) (by rw [e127]; omega) hst H3 (pg_cu_of u f3) K3 (fun k' i' p1 p2 p3 => (f3 k' i' p1 p2 p3).trans (hf k' i' p1 p2 p3))
set_option maxRecDepth 100000 in
theorem mc_read {l : Launch} {G : ax_T} {d : Nat} {h : ax_H} {n : Nat} (hd : 12 ≤ d) (H : mc_HW h n) {cu c0 c1 c2 : Nat} (u : pg_cu h cu c0 c1 c2) (hall : pg_run (ab_ri h 2) (ab_ri h 1 1).toNat ≠ -1) (K : pg_K h c0 c1 c2 0 (ab_ri h 2) 0) : mc_M l G d mt_X6_read [.ref 1, .ref cu] h n (kp_Q h n c0 c1 c2 (ab_ri h 2) (ab_ri h 1 1).toNat) := by
  obtain ⟨d, rfl⟩ : ∃ e, d = e + 1 := ⟨d - 1, by omega⟩
  have hmi : mt_X6_read ∈ mt_prog := List.mem_of_getElem? mi_X6_read
  have hlen : 0 ≤ ab_ri h 1 1 ∧ ab_ri h 1 1 ≤ 80 := mc_frng H (k := 1) (j := 1) (ci := 4) rfl rfl
  refine mc_to hmi rfl ?_
  show mc_R _ _ _ _ _ (0, [(0, .ref 1), (1, .ref cu)], [], h, n, 0, 0)
  refine mc_cx hmi 4 (F' := (4, [(3, .int (Int32.ofInt 0)), (2, .int (Int32.ofInt 0)), (0, .ref 1), (1, .ref cu)], [], h, n, 0, 0)) (by with_unfolding_all rfl) ?_
  refine mc_lvs (lv' := [(0, .ref 1), (1, .ref cu), (2, .int (Int32.ofInt 0)), (3, .int (Int32.ofInt 0))]) (by simp) ?_
  exact rd_loop (by omega) H hall (ab_ri h 1 1).toNat 0 h _ _ (by omega) rfl rfl H u K (fun _ _ _ _ _ => rfl)
