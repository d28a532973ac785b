/-! ===== by hand: the stone, in the reference and in the class; pour, lift (ways printed by wip/hand/h_stone.py) ===== -/
def ks_54_l : List ab_Y := [.inl (73, 73, 0), .inl (86, 86, 0), .inl (88, 88, 0), .inl (76, 76, 0), .inl (67, 67, 0), .inl (68, 68, 0), .inl (77, 77, 0), .inl (105, 105, 0), .inl (118, 118, 0), .inl (120, 120, 0), .inl (108, 108, 0), .inl (99, 99, 0), .inl (100, 100, 0), .inl (109, 109, 0)]
set_option maxRecDepth 100000 in
theorem let_at (h : ax_H) (n : Nat) (H : mc_HW h n) : ∀ j : Nat, j < 14 → ab_ri h 544 (j : Int) = ab_let.getD j 0 := by
  intro j hj
  have key : ∀ (i : Nat) (c : Int), i < 14 → [(73 : Int), 86, 88, 76, 67, 68, 77, 105, 118, 120, 108, 99, 100, 109][i]? = some c → ∀ g, (ks_54_l[i]? = some (.inl (c, c, g))) → ab_ri h 544 (i : Int) = c := by
    intro i c hi hc g hg
    have := mc_cst H (k := 544) (σ := ks_54_l) rfl rfl hi hg
    omega
  match j, hj with
  | 0, _ => exact key 0 73 (by decide) rfl 0 rfl
  | 1, _ => exact key 1 86 (by decide) rfl 0 rfl
  | 2, _ => exact key 2 88 (by decide) rfl 0 rfl
  | 3, _ => exact key 3 76 (by decide) rfl 0 rfl
  | 4, _ => exact key 4 67 (by decide) rfl 0 rfl
  | 5, _ => exact key 5 68 (by decide) rfl 0 rfl
  | 6, _ => exact key 6 77 (by decide) rfl 0 rfl
  | 7, _ => exact key 7 105 (by decide) rfl 0 rfl
  | 8, _ => exact key 8 118 (by decide) rfl 0 rfl
  | 9, _ => exact key 9 120 (by decide) rfl 0 rfl
  | 10, _ => exact key 10 108 (by decide) rfl 0 rfl
  | 11, _ => exact key 11 99 (by decide) rfl 0 rfl
  | 12, _ => exact key 12 100 (by decide) rfl 0 rfl
  | 13, _ => exact key 13 109 (by decide) rfl 0 rfl
set_option maxRecDepth 100000 in
theorem let_in {x : Int} (hx : x ∈ ab_let) : ∃ j : Nat, j < 14 ∧ ab_let.getD j 0 = x := by
  obtain ⟨j, hj⟩ := List.mem_iff_getElem?.mp hx
  have hl := (List.getElem?_eq_some_iff.mp hj).1
  exact ⟨j, hl, by rw [List.getD_eq_getElem?_getD, hj]; rfl⟩
set_option maxRecDepth 100000 in
theorem let_mem {j : Nat} (hj : j < 14) : ab_let.getD j 0 ∈ ab_let := by
  have : ab_let[j]? = some (ab_let[j]'hj) := List.getElem?_eq_getElem hj
  rw [List.getD_eq_getElem?_getD, this]
  exact List.getElem_mem hj
-- how many gaps there are among the first letters
def gq (f : Int → Int) : Nat → Nat
  | 0 => 0
  | i + 1 => gq f i + (if f (i : Int) = 46 then 1 else 0)
set_option maxRecDepth 100000 in
theorem gq_le (f : Int → Int) : ∀ m : Nat, gq f m ≤ m
  | 0 => Nat.le_refl 0
  | m + 1 => by
    have := gq_le f m
    show gq f m + _ ≤ m + 1
    split <;> omega
set_option maxRecDepth 100000 in
theorem gc_gq {h : ax_H} {k : Nat} {f : Int → Int} : ∀ m : Nat, (∀ t : Nat, t < m → (ab_ri h k (t : Int) = 14 ↔ f (t : Int) = 46)) → ab_gc h k m = gq f m
  | 0, _ => rfl
  | m + 1, e => by
    show ab_gc h k m + (if ab_ri h k (m : Int) = 14 then 1 else 0) = gq f m + (if f (m : Int) = 46 then 1 else 0)
    rw [gc_gq m (fun t ht => e t (by omega))]
    by_cases q : f (m : Int) = 46
    · rw [if_pos q, if_pos ((e m (by omega)).mpr q)]
    · rw [if_neg q, if_neg (fun z => q ((e m (by omega)).mp z))]
set_option maxRecDepth 100000 in
theorem so_loop {l : Launch} {G : ax_T} {d : Nat} {h : ax_H} {n : Nat} (H : mc_HW h n) (c : Int32) : ∀ (e j : Nat) (i : Int32), j + e = 14 → i.toInt = (j : Int) → (∀ t : Nat, t < j → ab_let.getD t 0 ≠ c.toInt) → mc_R l G mt_X11_signOf d (mc_P h n fun y => ((c.toInt ∈ ab_let ∧ 0 ≤ y.toInt ∧ y.toInt ≤ 13) ∨ (c.toInt ∉ ab_let ∧ y.toInt = -1))) (2, [(0, .ref 542), (1, .int c), (2, .int i)], [], h, n, 0, 0) := by
  have hmi : mt_X11_signOf ∈ mt_prog := List.mem_of_getElem? mi_X11_signOf
  intro e
  induction e with
  | zero =>
    intro j i hj hi hno
    refine mc_cx hmi 2 (F' := (5, [(0, .ref 542), (1, .int c), (2, .int i)], [.int (Int8.ofInt 14).toInt32, .int i], h, n, 0, 0)) (by with_unfolding_all rfl) ?_
    refine mc_ci hmi (c := .ge) (tg := 26) (pc' := 8) rfl rfl rfl hi (by decide) (fun (q101 : 14 ≤ (j : Int)) => ?_) (fun (q101 : (j : Int) < 14) => ?_)
    · refine mc_cx hmi 1 (F' := (27, [(0, .ref 542), (1, .int c), (2, .int i)], [.int (Int32.ofInt (-1))], h, n, 0, 0)) (by with_unfolding_all rfl) ?_
      refine mc_ret hmi rfl rfl rfl ⟨rfl, rfl, _, rfl, Or.inr ⟨fun hm => ?_, by decide⟩⟩
      obtain ⟨t, t1, t2⟩ := let_in hm
      exact hno t (by omega) t2
    · exact absurd q101 (by omega)
  | succ e ih =>
    intro j i hj hi hno
    refine mc_cx hmi 2 (F' := (5, [(0, .ref 542), (1, .int c), (2, .int i)], [.int (Int8.ofInt 14).toInt32, .int i], h, n, 0, 0)) (by with_unfolding_all rfl) ?_
    refine mc_ci hmi (c := .ge) (tg := 26) (pc' := 8) rfl rfl rfl hi (by decide) (fun (q102 : 14 ≤ (j : Int)) => ?_) (fun (q102 : (j : Int) < 14) => ?_)
    · exact absurd q102 (by omega)
    · have hc := let_at h n H j (by omega)
      refine mc_cx hmi 1 (F' := (9, [(0, .ref 542), (1, .int c), (2, .int i)], [.ref 542], h, n, 0, 0)) (by with_unfolding_all rfl) ?_
      refine mc_getr hmi H (k := 542) (c := 544) (pc' := 12) rfl rfl rfl rfl rfl ?_
      refine mc_cx hmi 1 (F' := (13, [(0, .ref 542), (1, .int c), (2, .int i)], [.int i, .ref 544], h, n, 0, 0)) (by with_unfolding_all rfl) ?_
      refine mc_iald hmi H (k := 544) (i := (j : Int)) (pc' := 14) rfl rfl rfl hi (by omega) (by omega) rfl (fun y103 e104 r105 r106 => ?_)
      rw [e104] at r105 r106
      refine mc_cx hmi 1 (F' := (15, [(0, .ref 542), (1, .int c), (2, .int i)], [.int c, .int y103], h, n, 0, 0)) (by with_unfolding_all rfl) ?_
      refine mc_ci hmi (c := .ne) (tg := 20) (pc' := 18) rfl rfl rfl e104 rfl (fun (q107 : ab_ri h 544 ((j : Int)) ≠ c.toInt) => ?_) (fun (q107 : ab_ri h 544 ((j : Int)) = c.toInt) => ?_)
      · refine mc_cx hmi 2 (F' := (2, [(2, .int (i + Int32.ofInt 1)), (0, .ref 542), (1, .int c)], [], h, n, 0, 0)) (by with_unfolding_all rfl) ?_
        have e108 : (i + Int32.ofInt 1).toInt = (j : Int) + 1 := mc_add hi (by decide) (by omega) (by omega)
        refine mc_lvs (lv' := [(0, .ref 542), (1, .int c), (2, .int (i + Int32.ofInt 1))]) (by simp) ?_
        refine ih (j + 1) (i + Int32.ofInt 1) (by omega) (by rw [e108]; omega) (fun t ht => ?_)
        by_cases q : t = j
        · rw [q, ← hc]; exact q107
        · exact hno t (by omega)
      · refine mc_cx hmi 1 (F' := (19, [(0, .ref 542), (1, .int c), (2, .int i)], [.int i], h, n, 0, 0)) (by with_unfolding_all rfl) ?_
        refine mc_ret hmi rfl rfl rfl ⟨rfl, rfl, _, rfl, Or.inl ⟨?_, by omega, by omega⟩⟩
        rw [← q107, hc]; exact let_mem (by omega)
set_option maxRecDepth 100000 in
theorem mc_signOf {l : Launch} {G : ax_T} {d : Nat} {h : ax_H} {n : Nat} (hd : 1 ≤ d) (H : mc_HW h n) (c : Int32) : mc_M l G d mt_X11_signOf [.ref 542, .int c] h n (mc_P h n fun y => ((c.toInt ∈ ab_let ∧ 0 ≤ y.toInt ∧ y.toInt ≤ 13) ∨ (c.toInt ∉ ab_let ∧ y.toInt = -1))) := by
  obtain ⟨d, rfl⟩ : ∃ e, d = e + 1 := ⟨d - 1, by omega⟩
  have hmi : mt_X11_signOf ∈ mt_prog := List.mem_of_getElem? mi_X11_signOf
  refine mc_to hmi rfl ?_
  show mc_R _ _ _ _ _ (0, [(0, .ref 542), (1, .int c)], [], h, n, 0, 0)
  refine mc_cx hmi 2 (F' := (2, [(2, .int (Int32.ofInt 0)), (0, .ref 542), (1, .int c)], [], h, n, 0, 0)) (by with_unfolding_all rfl) ?_
  refine mc_lvs (lv' := [(0, .ref 542), (1, .int c), (2, .int (Int32.ofInt 0))]) (by simp) ?_
  exact so_loop H c 14 0 _ rfl rfl (fun t ht => absurd ht (Nat.not_lt_zero t))
set_option maxRecDepth 100000 in
theorem st_1 {l : Launch} {G : ax_T} {d : Nat} {Q : Option Value → ax_H → Nat → Prop} {h : ax_H} {n : Nat} (hd : 1 ≤ d) (H : mc_HW h n) (s b : Int32) (hs : s.toInt ≤ 80) (kk : ∀ g q : Int32, (q.toInt = 0 ∨ q.toInt = 1 ∧ 1 ≤ s.toInt ∧ s.toInt ≤ 20 ∧ (∀ t : Nat, t < s.toInt.toNat → ab_ri h 545 (t : Int) = 46 ∨ ab_ri h 545 (t : Int) ∈ ab_let) ∧ g.toInt = (gq (ab_ri h 545) s.toInt.toNat : Int)) → mc_R l G mt_X11_stone d Q (125, [(0, .ref 542), (1, .int s), (2, .int b), (3, .int g), (4, .int q)], [], h, n, 0, 0)) : ∀ (c j : Nat) (g q i : Int32), (s.toInt - (j : Int)).toNat ≤ c → i.toInt = (j : Int) → (j : Int) ≤ s.toInt ∨ q.toInt = 0 → -(j : Int) ≤ 0 → 0 ≤ g.toInt → g.toInt ≤ (j : Int) → (q.toInt = 0 ∨ q.toInt = 1 ∧ 1 ≤ s.toInt ∧ s.toInt ≤ 20 ∧ (∀ t : Nat, t < j → ab_ri h 545 (t : Int) = 46 ∨ ab_ri h 545 (t : Int) ∈ ab_let) ∧ g.toInt = (gq (ab_ri h 545) j : Int)) → mc_R l G mt_X11_stone d Q (54, [(0, .ref 542), (1, .int s), (2, .int b), (3, .int g), (4, .int q), (5, .int i)], [], h, n, 0, 0) := by
  have hmi : mt_X11_stone ∈ mt_prog := List.mem_of_getElem? mi_X11_stone
  intro c
  induction c with
  | zero =>
    intro j g q i hc hi hjs _ hg0 hg1 hinv
    refine mc_cx hmi 2 (F' := (57, [(0, .ref 542), (1, .int s), (2, .int b), (3, .int g), (4, .int q), (5, .int i)], [.int s, .int i], h, n, 0, 0)) (by with_unfolding_all rfl) ?_
    refine mc_ci hmi (c := .ge) (tg := 125) (pc' := 60) rfl rfl rfl hi rfl (fun (q109 : s.toInt ≤ (j : Int)) => ?_) (fun (q109 : (j : Int) < s.toInt) => ?_)
    · refine mc_lvs (lv' := [(0, .ref 542), (1, .int s), (2, .int b), (3, .int g), (4, .int q)]) (by simp) ?_
      refine kk g q ?_
      rcases hinv with z | ⟨z1, z2, z3, z4, z5⟩
      · exact Or.inl z
      · have e : s.toInt.toNat = j := by omega
        rw [e]; exact Or.inr ⟨z1, z2, z3, z4, z5⟩
    · exact absurd q109 (by omega)
  | succ c ih =>
    intro j g q i hc hi hjs _ hg0 hg1 hinv
    refine mc_cx hmi 2 (F' := (57, [(0, .ref 542), (1, .int s), (2, .int b), (3, .int g), (4, .int q), (5, .int i)], [.int s, .int i], h, n, 0, 0)) (by with_unfolding_all rfl) ?_
    refine mc_ci hmi (c := .ge) (tg := 125) (pc' := 60) rfl rfl rfl hi rfl (fun (q110 : s.toInt ≤ (j : Int)) => ?_) (fun (q110 : (j : Int) < s.toInt) => ?_)
    · refine mc_lvs (lv' := [(0, .ref 542), (1, .int s), (2, .int b), (3, .int g), (4, .int q)]) (by simp) ?_
      refine kk g q ?_
      rcases hinv with z | ⟨z1, z2, z3, z4, z5⟩
      · exact Or.inl z
      · have e : s.toInt.toNat = j := by omega
        rw [e]; exact Or.inr ⟨z1, z2, z3, z4, z5⟩
    · refine mc_cx hmi 1 (F' := (62, [(0, .ref 542), (1, .int s), (2, .int b), (3, .int g), (4, .int q), (5, .int i)], [.int q], h, n, 0, 0)) (by with_unfolding_all rfl) ?_
      refine mc_cz hmi (c := .eq) (tg := 125) (pc' := 65) rfl rfl rfl rfl (fun (q111 : q.toInt = 0) => ?_) (fun (q111 : q.toInt ≠ 0) => ?_)
      · refine mc_lvs (lv' := [(0, .ref 542), (1, .int s), (2, .int b), (3, .int g), (4, .int q)]) (by simp) ?_
        exact kk g q (Or.inl q111)
      · obtain ⟨z1, z2, z3, z4, z5⟩ : q.toInt = 1 ∧ 1 ≤ s.toInt ∧ s.toInt ≤ 20 ∧ (∀ t : Nat, t < j → ab_ri h 545 (t : Int) = 46 ∨ ab_ri h 545 (t : Int) ∈ ab_let) ∧ g.toInt = (gq (ab_ri h 545) j : Int) := by
          rcases hinv with z | z
          · exact absurd z q111
          · exact z
        refine mc_cx hmi 2 (F' := (67, [(0, .ref 542), (1, .int s), (2, .int b), (3, .int g), (4, .int q), (5, .int i)], [.ref 542, .int g], h, n, 0, 0)) (by with_unfolding_all rfl) ?_
        refine mc_getr hmi H (k := 542) (c := 545) (pc' := 70) rfl rfl rfl rfl rfl ?_
        refine mc_cx hmi 1 (F' := (72, [(0, .ref 542), (1, .int s), (2, .int b), (3, .int g), (4, .int q), (5, .int i)], [.int i, .ref 545, .int g], h, n, 0, 0)) (by with_unfolding_all rfl) ?_
        refine mc_bald hmi H (k := 545) (i := (j : Int)) (pc' := 73) rfl rfl rfl hi (by omega) (by omega) rfl (fun y112 e113 r114 r115 => ?_)
        rw [e113] at r114 r115
        refine mc_cx hmi 1 (F' := (75, [(0, .ref 542), (1, .int s), (2, .int b), (3, .int g), (4, .int q), (5, .int i)], [.int (Int8.ofInt 46).toInt32, .int y112, .int g], h, n, 0, 0)) (by with_unfolding_all rfl) ?_
        have k83 : ∀ u : Int32, u.toInt = (if ab_ri h 545 (j : Int) = 46 then (1 : Int) else 0) → mc_R l G mt_X11_stone d Q (83, [(0, .ref 542), (1, .int s), (2, .int b), (3, .int g), (4, .int q), (5, .int i)], [.int u, .int g], h, n, 0, 0) := by
          intro u hu
          have hu1 : 0 ≤ u.toInt ∧ u.toInt ≤ 1 := by rw [hu]; split <;> decide
          refine mc_cx hmi 3 (F' := (86, [(3, .int (g + u)), (0, .ref 542), (1, .int s), (2, .int b), (4, .int q), (5, .int i)], [.ref 542], h, n, 0, 0)) (by with_unfolding_all rfl) ?_
          have e116 : (g + u).toInt = g.toInt + u.toInt := mc_add rfl rfl (by omega) (by omega)
          refine mc_getr hmi H (k := 542) (c := 545) (pc' := 89) rfl rfl rfl rfl rfl ?_
          refine mc_cx hmi 1 (F' := (91, [(3, .int (g + u)), (0, .ref 542), (1, .int s), (2, .int b), (4, .int q), (5, .int i)], [.int i, .ref 545], h, n, 0, 0)) (by with_unfolding_all rfl) ?_
          refine mc_bald hmi H (k := 545) (i := (j : Int)) (pc' := 92) rfl rfl rfl hi (by omega) (by omega) rfl (fun y117 e118 r119 r120 => ?_)
          rw [e118] at r119 r120
          refine mc_cx hmi 1 (F' := (94, [(3, .int (g + u)), (0, .ref 542), (1, .int s), (2, .int b), (4, .int q), (5, .int i)], [.int (Int8.ofInt 46).toInt32, .int y117], h, n, 0, 0)) (by with_unfolding_all rfl) ?_
          have egq : (g + u).toInt = (gq (ab_ri h 545) (j + 1) : Int) := by
            rw [e116, hu, z5]
            show _ = ((gq (ab_ri h 545) j + (if ab_ri h 545 (j : Int) = 46 then 1 else 0) : Nat) : Int)
            split <;> rfl
          have k117 : ∀ v : Int32, (v.toInt = 0 ∨ v.toInt = 1 ∧ (ab_ri h 545 (j : Int) = 46 ∨ ab_ri h 545 (j : Int) ∈ ab_let)) → mc_R l G mt_X11_stone d Q (117, [(3, .int (g + u)), (0, .ref 542), (1, .int s), (2, .int b), (4, .int q), (5, .int i)], [.int v], h, n, 0, 0) := by
            intro v hv
            refine mc_cx hmi 3 (F' := (54, [(5, .int (i + Int32.ofInt 1)), (4, .int v), (3, .int (g + u)), (0, .ref 542), (1, .int s), (2, .int b)], [], h, n, 0, 0)) (by with_unfolding_all rfl) ?_
            have e121 : (i + Int32.ofInt 1).toInt = (j : Int) + 1 := mc_add hi (by decide) (by omega) (by omega)
            refine mc_lvs (lv' := [(0, .ref 542), (1, .int s), (2, .int b), (3, .int (g + u)), (4, .int v), (5, .int (i + Int32.ofInt 1))]) (by simp) ?_
            refine ih (j + 1) (g + u) v (i + Int32.ofInt 1) (by omega) (by rw [e121]; omega) (by omega) (by omega) (by rw [e116]; omega) (by rw [e116]; omega) ?_
            rcases hv with hv | ⟨hv, hl⟩
            · exact Or.inl hv
            · refine Or.inr ⟨hv, z2, z3, fun t ht => ?_, egq⟩
              by_cases e : t = j
              · rw [e]; exact hl
              · exact z4 t (by omega)
          refine mc_ci hmi (c := .eq) (tg := 112) (pc' := 97) rfl rfl rfl e118 (by decide) (fun (q122 : ab_ri h 545 ((j : Int)) = 46) => ?_) (fun (q122 : ab_ri h 545 ((j : Int)) ≠ 46) => ?_)
          · refine mc_cx hmi 2 (F' := (117, [(3, .int (g + u)), (0, .ref 542), (1, .int s), (2, .int b), (4, .int q), (5, .int i)], [.int (Int32.ofInt 1)], h, n, 0, 0)) (by with_unfolding_all rfl) ?_
            exact k117 _ (Or.inr ⟨by decide, Or.inl q122⟩)
          · refine mc_cx hmi 2 (F' := (99, [(3, .int (g + u)), (0, .ref 542), (1, .int s), (2, .int b), (4, .int q), (5, .int i)], [.ref 542, .ref 542], h, n, 0, 0)) (by with_unfolding_all rfl) ?_
            refine mc_getr hmi H (k := 542) (c := 545) (pc' := 102) rfl rfl rfl rfl rfl ?_
            refine mc_cx hmi 1 (F' := (104, [(3, .int (g + u)), (0, .ref 542), (1, .int s), (2, .int b), (4, .int q), (5, .int i)], [.int i, .ref 545, .ref 542], h, n, 0, 0)) (by with_unfolding_all rfl) ?_
            refine mc_bald hmi H (k := 545) (i := (j : Int)) (pc' := 105) rfl rfl rfl hi (by omega) (by omega) rfl (fun y123 e124 r125 r126 => ?_)
            rw [e124] at r125 r126
            refine mc_callP hmi (en := (105, .invokevirtual 116, 3, (3, 155, 11, 0), [1288, 76, 1286])) rfl (q := (mt_X11_signOf, [.ref 542, .int y123], [])) (mc_inv H (as := [.int y123]) (rest := []) rfl (by with_unfolding_all rfl) rfl rfl rfl) ⟨rfl, rfl⟩ (pc' := 108) rfl (mc_signOf hd H y123) (fun y127 e128 => ?_)
            rw [e124] at e128
            refine mc_cx hmi 1 (F' := (109, [(3, .int (g + u)), (0, .ref 542), (1, .int s), (2, .int b), (4, .int q), (5, .int i)], [.int (Int32.ofInt (-1)), .int y127], h, n, 0, 0)) (by with_unfolding_all rfl) ?_
            refine mc_ci hmi (c := .eq) (tg := 116) (pc' := 112) rfl rfl rfl rfl (by decide) (fun (q129 : y127.toInt = (-1)) => ?_) (fun (q129 : y127.toInt ≠ (-1)) => ?_)
            · refine mc_cx hmi 1 (F' := (117, [(3, .int (g + u)), (0, .ref 542), (1, .int s), (2, .int b), (4, .int q), (5, .int i)], [.int (Int32.ofInt 0)], h, n, 0, 0)) (by with_unfolding_all rfl) ?_
              exact k117 _ (Or.inl (by decide))
            · refine mc_cx hmi 2 (F' := (117, [(3, .int (g + u)), (0, .ref 542), (1, .int s), (2, .int b), (4, .int q), (5, .int i)], [.int (Int32.ofInt 1)], h, n, 0, 0)) (by with_unfolding_all rfl) ?_
              exact k117 _ (Or.inr ⟨by decide, Or.inr (e128.elim (fun q => q.1) (fun q => absurd q.2 q129))⟩)
        refine mc_ci hmi (c := .ne) (tg := 82) (pc' := 78) rfl rfl rfl e113 (by decide) (fun (q130 : ab_ri h 545 ((j : Int)) ≠ 46) => ?_) (fun (q130 : ab_ri h 545 ((j : Int)) = 46) => ?_)
        · refine mc_cx hmi 1 (F' := (83, [(0, .ref 542), (1, .int s), (2, .int b), (3, .int g), (4, .int q), (5, .int i)], [.int (Int32.ofInt 0), .int g], h, n, 0, 0)) (by with_unfolding_all rfl) ?_
          exact k83 _ (by rw [if_neg q130]; decide)
        · refine mc_cx hmi 2 (F' := (83, [(0, .ref 542), (1, .int s), (2, .int b), (3, .int g), (4, .int q), (5, .int i)], [.int (Int32.ofInt 1), .int g], h, n, 0, 0)) (by with_unfolding_all rfl) ?_
          exact k83 _ (by rw [if_pos q130]; decide)
set_option maxRecDepth 100000 in
theorem st_2 {l : Launch} {G : ax_T} {d : Nat} {Q : Option Value → ax_H → Nat → Prop} {h : ax_H} {n : Nat} (hd : 1 ≤ d) (s b : Int32) {N : Nat} (hs : s.toInt = (N : Int)) (hN : N ≤ 20) (hok : (∀ t : Nat, t < N → ab_ri h 545 (t : Int) = 46 ∨ ab_ri h 545 (t : Int) ∈ ab_let)) (kk : ∀ h' : ax_H, mc_HW h' n → (∀ (k' : Nat) (i' : Int), k' ≠ 554 → ab_rd h' k' i' = ab_rd h k' i') → (∀ t : Nat, t < N → (ab_ri h' 554 (t : Int) = 14 ↔ ab_ri h 545 (t : Int) = 46)) → mc_R l G mt_X11_stone d Q (188, [(0, .ref 542), (1, .int s), (2, .int b)], [], h', n, 0, 0)) : ∀ (c j : Nat) (h' : ax_H) (i : Int32), j + c = N → i.toInt = (j : Int) → mc_HW h' n → (∀ (k' : Nat) (i' : Int), k' ≠ 554 → ab_rd h' k' i' = ab_rd h k' i') → (∀ t : Nat, t < j → (ab_ri h' 554 (t : Int) = 14 ↔ ab_ri h 545 (t : Int) = 46)) → mc_R l G mt_X11_stone d Q (141, [(0, .ref 542), (1, .int s), (2, .int b), (5, .int i)], [], h', n, 0, 0) := by
  have hmi : mt_X11_stone ∈ mt_prog := List.mem_of_getElem? mi_X11_stone
  intro c
  induction c with
  | zero =>
    intro j h' i hj hi H' hfr hz
    refine mc_cx hmi 2 (F' := (144, [(0, .ref 542), (1, .int s), (2, .int b), (5, .int i)], [.int s, .int i], h', n, 0, 0)) (by with_unfolding_all rfl) ?_
    refine mc_ci hmi (c := .ge) (tg := 188) (pc' := 147) rfl rfl rfl hi hs (fun (q131 : (N : Int) ≤ (j : Int)) => ?_) (fun (q131 : (j : Int) < (N : Int)) => ?_)
    · refine mc_lvs (lv' := [(0, .ref 542), (1, .int s), (2, .int b)]) (by simp) ?_
      have e : j = N := by omega
      rw [e] at hz
      exact kk h' H' hfr hz
    · exact absurd q131 (by omega)
  | succ c ih =>
    intro j h' i hj hi H' hfr hz
    refine mc_cx hmi 2 (F' := (144, [(0, .ref 542), (1, .int s), (2, .int b), (5, .int i)], [.int s, .int i], h', n, 0, 0)) (by with_unfolding_all rfl) ?_
    refine mc_ci hmi (c := .ge) (tg := 188) (pc' := 147) rfl rfl rfl hi hs (fun (q132 : (N : Int) ≤ (j : Int)) => ?_) (fun (q132 : (j : Int) < (N : Int)) => ?_)
    · exact absurd q132 (by omega)
    · have hpg : ab_ri h' 545 (j : Int) = ab_ri h 545 (j : Int) := ab_ri_of (hfr 545 _ (by decide))
      refine mc_cx hmi 1 (F' := (148, [(0, .ref 542), (1, .int s), (2, .int b), (5, .int i)], [.ref 542], h', n, 0, 0)) (by with_unfolding_all rfl) ?_
      refine mc_getr hmi H' (k := 542) (c := 554) (pc' := 151) rfl rfl rfl rfl rfl ?_
      refine mc_cx hmi 2 (F' := (154, [(0, .ref 542), (1, .int s), (2, .int b), (5, .int i)], [.ref 542, .int i, .ref 554], h', n, 0, 0)) (by with_unfolding_all rfl) ?_
      refine mc_getr hmi H' (k := 542) (c := 545) (pc' := 157) rfl rfl rfl rfl rfl ?_
      refine mc_cx hmi 1 (F' := (159, [(0, .ref 542), (1, .int s), (2, .int b), (5, .int i)], [.int i, .ref 545, .int i, .ref 554], h', n, 0, 0)) (by with_unfolding_all rfl) ?_
      refine mc_bald hmi H' (k := 545) (i := (j : Int)) (pc' := 160) rfl rfl rfl hi (by omega) (by omega) rfl (fun y133 e134 r135 r136 => ?_)
      rw [e134] at r135 r136
      refine mc_cx hmi 1 (F' := (162, [(0, .ref 542), (1, .int s), (2, .int b), (5, .int i)], [.int (Int8.ofInt 46).toInt32, .int y133, .int i, .ref 554], h', n, 0, 0)) (by with_unfolding_all rfl) ?_
      have k181 : ∀ u : Int32, 0 ≤ u.toInt → u.toInt ≤ 14 → (u.toInt = 14 ↔ ab_ri h 545 (j : Int) = 46) → mc_R l G mt_X11_stone d Q (181, [(0, .ref 542), (1, .int s), (2, .int b), (5, .int i)], [.int u, .int i, .ref 554], h', n, 0, 0) := by
        intro u hu0 hu1 hu
        have b137 := Int32.le_toInt (u)
        have b138 := Int32.toInt_lt (u)
        refine mc_iast hmi H' (k := 554) (i := (j : Int)) (pc' := 182) rfl rfl rfl hi (by omega) (by omega) (by rw [show (u).toInt = u.toInt from rfl]; omega) (by rw [show (u).toInt = u.toInt from rfl]; omega) rfl (fun h139 H140 w141 => ?_)
        refine mc_cx hmi 2 (F' := (141, [(5, .int (i + Int32.ofInt 1)), (0, .ref 542), (1, .int s), (2, .int b)], [], h139, n, 0, 0)) (by with_unfolding_all rfl) ?_
        have e142 : (i + Int32.ofInt 1).toInt = (j : Int) + 1 := mc_add hi (by decide) (by omega) (by omega)
        refine mc_lvs (lv' := [(0, .ref 542), (1, .int s), (2, .int b), (5, .int (i + Int32.ofInt 1))]) (by simp) ?_
        refine ih (j + 1) h139 (i + Int32.ofInt 1) (by omega) (by rw [e142]; omega) H140 (fun k' i' hk => by rw [w141, if_neg (fun q => hk q.1)]; exact hfr k' i' hk) (fun t ht => ?_)
        rw [mc_ri w141]
        by_cases e : t = j
        · rw [if_pos ⟨rfl, by rw [e]⟩, e]; exact hu
        · rw [if_neg (fun q => by have := q.2; omega)]; exact hz t (by omega)
      refine mc_ci hmi (c := .ne) (tg := 170) (pc' := 165) rfl rfl rfl e134 (by decide) (fun (q143 : ab_ri h' 545 ((j : Int)) ≠ 46) => ?_) (fun (q143 : ab_ri h' 545 ((j : Int)) = 46) => ?_)
      · refine mc_cx hmi 2 (F' := (172, [(0, .ref 542), (1, .int s), (2, .int b), (5, .int i)], [.ref 542, .ref 542, .int i, .ref 554], h', n, 0, 0)) (by with_unfolding_all rfl) ?_
        refine mc_getr hmi H' (k := 542) (c := 545) (pc' := 175) rfl rfl rfl rfl rfl ?_
        refine mc_cx hmi 1 (F' := (177, [(0, .ref 542), (1, .int s), (2, .int b), (5, .int i)], [.int i, .ref 545, .ref 542, .int i, .ref 554], h', n, 0, 0)) (by with_unfolding_all rfl) ?_
        refine mc_bald hmi H' (k := 545) (i := (j : Int)) (pc' := 178) rfl rfl rfl hi (by omega) (by omega) rfl (fun y144 e145 r146 r147 => ?_)
        rw [e145] at r146 r147
        refine mc_callP hmi (en := (178, .invokevirtual 116, 3, (3, 155, 11, 0), [1288, 76, 1286])) rfl (q := (mt_X11_signOf, [.ref 542, .int y144], [.int i, .ref 554])) (mc_inv H' (as := [.int y144]) (rest := [.int i, .ref 554]) rfl (by with_unfolding_all rfl) rfl rfl rfl) ⟨rfl, rfl⟩ (pc' := 181) rfl (mc_signOf hd H' y144) (fun y148 e149 => ?_)
        rw [e145, hpg] at e149
        have hne : ab_ri h 545 (j : Int) ≠ 46 := by rw [← hpg]; exact q143
        have hy : 0 ≤ y148.toInt ∧ y148.toInt ≤ 13 := e149.elim (fun q => q.2) (fun q => ((hok j (by omega)).elim (fun z => absurd z hne) (fun z => absurd z q.1)))
        exact k181 y148 hy.1 (by omega) ⟨fun q => by omega, fun q => absurd q hne⟩
      · refine mc_cx hmi 2 (F' := (181, [(0, .ref 542), (1, .int s), (2, .int b), (5, .int i)], [.int (Int8.ofInt 14).toInt32, .int i, .ref 554], h', n, 0, 0)) (by with_unfolding_all rfl) ?_
        exact k181 _ (by decide) (by decide) ⟨fun _ => by rw [← hpg]; exact q143, fun _ => by decide⟩
set_option maxRecDepth 100000 in
theorem mc_stone {l : Launch} {G : ax_T} {d : Nat} {h : ax_H} {n : Nat} (hd : 2 ≤ d) (H : mc_HW h n) : mc_M l G d mt_X11_stone [.ref 542] h n (fun r' h' n' => n' = n ∧ mc_HW h' n ∧ (∃ y : Int32, r' = some (.int y)) ∧ (∀ (k' : Nat) (i' : Int), k' ≠ 554 → (k' = 542 → i' ≠ 2) → (k' = 542 → i' ≠ 14) → (k' = 542 → i' ≠ 15) → ab_rd h' k' i' = ab_rd h k' i') ∧ (ab_gc h 554 (ab_ri h 542 14).toNat ≤ 3 → ab_gc h' 554 (ab_ri h' 542 14).toNat ≤ 3)) := by
  obtain ⟨d, rfl⟩ : ∃ e, d = e + 1 := ⟨d - 1, by omega⟩
  have hmi : mt_X11_stone ∈ mt_prog := List.mem_of_getElem? mi_X11_stone
  refine mc_to hmi rfl ?_
  show mc_R _ _ _ _ _ (0, [(0, .ref 542)], [], h, n, 0, 0)
  refine mc_cx hmi 1 (F' := (1, [(0, .ref 542)], [.ref 542], h, n, 0, 0)) (by with_unfolding_all rfl) ?_
  refine mc_geti hmi H (k := 542) (j := 2) (pc' := 4) rfl rfl rfl rfl (fun y150 (e151 : y150.toInt = ab_ri h 542 2) r152 r153 => ?_)
  rw [e151] at r152 r153
  refine mc_cx hmi 2 (F' := (6, [(1, .int y150), (0, .ref 542)], [.int y150], h, n, 0, 0)) (by with_unfolding_all rfl) ?_
  have hs80 : 0 ≤ y150.toInt ∧ y150.toInt ≤ 80 := by rw [e151]; exact ⟨by omega, by omega⟩
  have k27 : ∀ bb : Int32, (bb.toInt = 0 ∨ bb.toInt = 1 ∧ 1 ≤ y150.toInt) → mc_R l G mt_X11_stone d (fun r' h' n' => n' = n ∧ mc_HW h' n ∧ (∃ y : Int32, r' = some (.int y)) ∧ (∀ (k' : Nat) (i' : Int), k' ≠ 554 → (k' = 542 → i' ≠ 2) → (k' = 542 → i' ≠ 14) → (k' = 542 → i' ≠ 15) → ab_rd h' k' i' = ab_rd h k' i') ∧ (ab_gc h 554 (ab_ri h 542 14).toNat ≤ 3 → ab_gc h' 554 (ab_ri h' 542 14).toNat ≤ 3)) (27, [(1, .int y150), (0, .ref 542)], [.int bb], h, n, 0, 0) := by
    intro bb hb
    refine mc_cx hmi 3 (F' := (30, [(2, .int bb), (1, .int y150), (0, .ref 542)], [.int bb, .int y150], h, n, 0, 0)) (by with_unfolding_all rfl) ?_
    have k38 : ∀ v : Int32, v.toInt = bb.toInt → mc_R l G mt_X11_stone d (fun r' h' n' => n' = n ∧ mc_HW h' n ∧ (∃ y : Int32, r' = some (.int y)) ∧ (∀ (k' : Nat) (i' : Int), k' ≠ 554 → (k' = 542 → i' ≠ 2) → (k' = 542 → i' ≠ 14) → (k' = 542 → i' ≠ 15) → ab_rd h' k' i' = ab_rd h k' i') ∧ (ab_gc h 554 (ab_ri h 542 14).toNat ≤ 3 → ab_gc h' 554 (ab_ri h' 542 14).toNat ≤ 3)) (38, [(2, .int bb), (1, .int y150), (0, .ref 542)], [.int v, .int y150], h, n, 0, 0) := by
      intro v hv
      refine mc_cx hmi 7 (F' := (46, [(3, .int (Int32.ofInt 0)), (1, .int (y150 - v)), (2, .int bb), (0, .ref 542)], [.int (Int8.ofInt 20).toInt32, .int (Int32.ofInt 1), .int (y150 - v)], h, n, 0, 0)) (by with_unfolding_all rfl) ?_
      have e154 : (y150 - v).toInt = y150.toInt - bb.toInt := mc_sub rfl hv (by omega) (by omega)
      have hs2 : 0 ≤ (y150 - v).toInt ∧ (y150 - v).toInt ≤ 80 := by rw [e154]; omega
      generalize (y150 - v) = s at *
      refine mc_callP hmi (en := (46, .invokestatic 120, 3, (3, 152, 0, 0), [1291, 1290])) rfl (q := (mt_X11_in, [.int s, .int (Int32.ofInt 1), .int (Int8.ofInt 20).toInt32], [])) (by with_unfolding_all rfl) ⟨rfl, rfl⟩ (pc' := 49) rfl (mc_inP (by omega) s (Int32.ofInt 1) (Int8.ofInt 20).toInt32 _ _) (fun y155 e156 => ?_)
      have hq : y155.toInt = 0 ∨ y155.toInt = 1 ∧ 1 ≤ s.toInt ∧ s.toInt ≤ 20 := by
        have a1 : (Int32.ofInt 1).toInt = 1 := by decide
        have a2 : ((Int8.ofInt 20).toInt32).toInt = 20 := by decide
        omega
      refine mc_cx hmi 3 (F' := (54, [(5, .int (Int32.ofInt 0)), (4, .int y155), (3, .int (Int32.ofInt 0)), (1, .int s), (2, .int bb), (0, .ref 542)], [], h, n, 0, 0)) (by with_unfolding_all rfl) ?_
      refine mc_lvs (lv' := [(0, .ref 542), (1, .int s), (2, .int bb), (3, .int (Int32.ofInt 0)), (4, .int y155), (5, .int (Int32.ofInt 0))]) (by simp) ?_
      refine st_1 (by omega) H s bb hs2.2 (fun g q hinv => ?_) _ 0 _ y155 _ (Nat.le_refl _) rfl (Or.inl hs2.1) (by omega) (by decide) (by decide) (hq.elim Or.inl (fun z => Or.inr ⟨z.1, z.2.1, z.2.2, fun t ht => absurd ht (Nat.not_lt_zero t), rfl⟩))
      refine mc_cx hmi 1 (F' := (127, [(0, .ref 542), (1, .int s), (2, .int bb), (3, .int g), (4, .int q)], [.int q], h, n, 0, 0)) (by with_unfolding_all rfl) ?_
      refine mc_cz hmi (c := .eq) (tg := 135) (pc' := 130) rfl rfl rfl rfl (fun (q157 : q.toInt = 0) => ?_) (fun (q157 : q.toInt ≠ 0) => ?_)
      · refine mc_cx hmi 1 (F' := (137, [(0, .ref 542), (1, .int s), (2, .int bb), (3, .int g), (4, .int q)], [.int (Int8.ofInt (-103)).toInt32], h, n, 0, 0)) (by with_unfolding_all rfl) ?_
        exact mc_ret hmi rfl rfl rfl ⟨rfl, H, ⟨_, rfl⟩, fun _ _ _ _ _ _ => rfl, id⟩
      · obtain ⟨z1, z2, z3, z4, z5⟩ : q.toInt = 1 ∧ 1 ≤ s.toInt ∧ s.toInt ≤ 20 ∧ (∀ t : Nat, t < s.toInt.toNat → ab_ri h 545 (t : Int) = 46 ∨ ab_ri h 545 (t : Int) ∈ ab_let) ∧ g.toInt = (gq (ab_ri h 545) s.toInt.toNat : Int) := hinv.elim (fun z => absurd z q157) id
        refine mc_cx hmi 2 (F' := (132, [(0, .ref 542), (1, .int s), (2, .int bb), (3, .int g), (4, .int q)], [.int (Int32.ofInt 3), .int g], h, n, 0, 0)) (by with_unfolding_all rfl) ?_
        refine mc_ci hmi (c := .le) (tg := 138) (pc' := 135) rfl rfl rfl rfl (by decide) (fun (q158 : g.toInt ≤ 3) => ?_) (fun (q158 : 3 < g.toInt) => ?_)
        · refine mc_cx hmi 2 (F' := (141, [(5, .int (Int32.ofInt 0)), (0, .ref 542), (1, .int s), (2, .int bb), (3, .int g), (4, .int q)], [], h, n, 0, 0)) (by with_unfolding_all rfl) ?_
          refine mc_lvs (lv' := [(0, .ref 542), (1, .int s), (2, .int bb), (5, .int (Int32.ofInt 0))]) (by simp) ?_
          refine st_2 (h := h) (by omega) s bb (N := s.toInt.toNat) (by omega) (by omega) z4 (fun h2 H2 f2 g2 => ?_) s.toInt.toNat 0 h (Int32.ofInt 0) (Nat.zero_add _) rfl H (fun _ _ _ => rfl) (fun t ht => absurd ht (Nat.not_lt_zero t))
          refine mc_cx hmi 2 (F' := (190, [(0, .ref 542), (1, .int s), (2, .int bb)], [.int s, .ref 542], h2, n, 0, 0)) (by with_unfolding_all rfl) ?_
          refine mc_puti hmi H2 (k := 542) (j := 14) (pc' := 193) rfl rfl rfl rfl (by rw [show (s).toInt = s.toInt from rfl]; omega) (by rw [show (s).toInt = s.toInt from rfl]; omega) rfl (fun h159 H160 w161 => ?_)
          refine mc_cx hmi 2 (F' := (195, [(0, .ref 542), (1, .int s), (2, .int bb)], [.int bb, .ref 542], h159, n, 0, 0)) (by with_unfolding_all rfl) ?_
          refine mc_puti hmi H160 (k := 542) (j := 15) (pc' := 198) rfl rfl rfl rfl (by rw [show (bb).toInt = bb.toInt from rfl]; omega) (by rw [show (bb).toInt = bb.toInt from rfl]; omega) rfl (fun h162 H163 w164 => ?_)
          refine mc_cx hmi 2 (F' := (200, [(0, .ref 542), (1, .int s), (2, .int bb)], [.int (Int32.ofInt 0), .ref 542], h162, n, 0, 0)) (by with_unfolding_all rfl) ?_
          refine mc_puti hmi H163 (k := 542) (j := 2) (pc' := 203) rfl rfl rfl rfl (by rw [show ((Int32.ofInt 0)).toInt = 0 from by decide]; omega) (by rw [show ((Int32.ofInt 0)).toInt = 0 from by decide]; omega) rfl (fun h165 H166 w167 => ?_)
          refine mc_cx hmi 1 (F' := (204, [(0, .ref 542), (1, .int s), (2, .int bb)], [.int s], h165, n, 0, 0)) (by with_unfolding_all rfl) ?_
          refine mc_ret hmi rfl rfl rfl ⟨rfl, H166, ⟨_, rfl⟩, fun k' i' p1 p2 p3 p4 => ?_, fun _ => ?_⟩
          · rw [w167, if_neg (fun q => p2 q.1 q.2), w164, if_neg (fun q => p4 q.1 q.2), w161, if_neg (fun q => p3 q.1 q.2)]; exact f2 k' i' p1
          · have e1 : ab_ri h165 542 14 = s.toInt := by rw [mc_ri w167, if_neg (fun q => absurd q.2 (by decide)), mc_ri w164, if_neg (fun q => absurd q.2 (by decide)), mc_ri w161, if_pos ⟨rfl, rfl⟩]
            rw [e1, gc_gq (f := ab_ri h 545) s.toInt.toNat (fun t ht => by rw [mc_ri w167, if_neg (fun q => absurd q.1 (by decide)), mc_ri w164, if_neg (fun q => absurd q.1 (by decide)), mc_ri w161, if_neg (fun q => absurd q.1 (by decide))]; exact g2 t ht)]
            omega
        · refine mc_cx hmi 1 (F' := (137, [(0, .ref 542), (1, .int s), (2, .int bb), (3, .int g), (4, .int q)], [.int (Int8.ofInt (-103)).toInt32], h, n, 0, 0)) (by with_unfolding_all rfl) ?_
          exact mc_ret hmi rfl rfl rfl ⟨rfl, H, ⟨_, rfl⟩, fun _ _ _ _ _ _ => rfl, id⟩
    refine mc_cz hmi (c := .eq) (tg := 37) (pc' := 33) rfl rfl rfl rfl (fun (q168 : bb.toInt = 0) => ?_) (fun (q168 : bb.toInt ≠ 0) => ?_)
    · refine mc_cx hmi 1 (F' := (38, [(2, .int bb), (1, .int y150), (0, .ref 542)], [.int (Int32.ofInt 0), .int y150], h, n, 0, 0)) (by with_unfolding_all rfl) ?_
      exact k38 _ (by rw [q168]; decide)
    · refine mc_cx hmi 2 (F' := (38, [(2, .int bb), (1, .int y150), (0, .ref 542)], [.int (Int32.ofInt 1), .int y150], h, n, 0, 0)) (by with_unfolding_all rfl) ?_
      exact k38 _ (by rw [show bb.toInt = 1 from hb.elim (fun z => absurd z q168) (fun z => z.1)]; decide)
  refine mc_cz hmi (c := .le) (tg := 26) (pc' := 9) rfl rfl rfl rfl (fun (q169 : y150.toInt ≤ 0) => ?_) (fun (q169 : 0 < y150.toInt) => ?_)
  · refine mc_cx hmi 1 (F' := (27, [(1, .int y150), (0, .ref 542)], [.int (Int32.ofInt 0)], h, n, 0, 0)) (by with_unfolding_all rfl) ?_
    exact k27 _ (Or.inl (by decide))
  · refine mc_cx hmi 1 (F' := (10, [(1, .int y150), (0, .ref 542)], [.ref 542], h, n, 0, 0)) (by with_unfolding_all rfl) ?_
    refine mc_getr hmi H (k := 542) (c := 545) (pc' := 13) rfl rfl rfl rfl rfl ?_
    refine mc_cx hmi 3 (F' := (16, [(1, .int y150), (0, .ref 542)], [.int (y150 - (Int32.ofInt 1)), .ref 545], h, n, 0, 0)) (by with_unfolding_all rfl) ?_
    have e170 : (y150 - (Int32.ofInt 1)).toInt = y150.toInt - 1 := mc_sub rfl (by decide) (by omega) (by omega)
    refine mc_bald hmi H (k := 545) (i := (y150.toInt - 1)) (pc' := 17) rfl rfl rfl e170 (by omega) (by omega) rfl (fun y171 e172 r173 r174 => ?_)
    rw [e172] at r173 r174
    refine mc_cx hmi 1 (F' := (19, [(1, .int y150), (0, .ref 542)], [.int (Int8.ofInt 42).toInt32, .int y171], h, n, 0, 0)) (by with_unfolding_all rfl) ?_
    refine mc_ci hmi (c := .ne) (tg := 26) (pc' := 22) rfl rfl rfl e172 (by decide) (fun (q175 : ab_ri h 545 ((y150.toInt - 1)) ≠ 42) => ?_) (fun (q175 : ab_ri h 545 ((y150.toInt - 1)) = 42) => ?_)
    · refine mc_cx hmi 1 (F' := (27, [(1, .int y150), (0, .ref 542)], [.int (Int32.ofInt 0)], h, n, 0, 0)) (by with_unfolding_all rfl) ?_
      exact k27 _ (Or.inl (by decide))
    · refine mc_cx hmi 2 (F' := (27, [(1, .int y150), (0, .ref 542)], [.int (Int32.ofInt 1)], h, n, 0, 0)) (by with_unfolding_all rfl) ?_
      exact k27 _ (Or.inr ⟨by decide, by omega⟩)
