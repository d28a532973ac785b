/-! ===== stone of class and reference, exactly (ways printed by wip/v2/mk84f.py) ===== -/
def pg_po (f : Int → Int) (L : Int) : Int := if 0 < L ∧ f (L - 1) = 42 then L - 1 else L
/-- the page is a stone -/
def pg_st (f : Int → Int) (L : Int) : Prop := 1 ≤ pg_po f L ∧ pg_po f L ≤ 20 ∧ (∀ t : Nat, t < (pg_po f L).toNat → f (t : Int) = 46 ∨ f (t : Int) ∈ ab_let) ∧ gq f (pg_po f L).toNat ≤ 3
set_option maxRecDepth 100000 in
theorem st_1E {l : Launch} {G : ax_T} {d : Nat} {Q : Option Value → ax_H → Nat → Prop} {h : ax_H} {n : Nat} (hd : 1 ≤ d) (H : mc_HW h n) (s b : Int32) (hs : s.toInt ≤ 80) (kk : ∀ g q : Int32, (q.toInt = 0 ∧ ¬ (1 ≤ s.toInt ∧ s.toInt ≤ 20 ∧ (∀ t : Nat, t < s.toInt.toNat → ab_ri h 545 (t : Int) = 46 ∨ ab_ri h 545 (t : Int) ∈ ab_let)) ∨ q.toInt = 1 ∧ 1 ≤ s.toInt ∧ s.toInt ≤ 20 ∧ (∀ t : Nat, t < s.toInt.toNat → ab_ri h 545 (t : Int) = 46 ∨ ab_ri h 545 (t : Int) ∈ ab_let) ∧ g.toInt = (gq (ab_ri h 545) s.toInt.toNat : Int)) → mc_R l G mt_X11_stone d Q (125, [(0, .ref 542), (1, .int s), (2, .int b), (3, .int g), (4, .int q)], [], h, n, 0, 0)) : ∀ (c j : Nat) (g q i : Int32), (s.toInt - (j : Int)).toNat ≤ c → i.toInt = (j : Int) → (j : Int) ≤ s.toInt ∨ q.toInt = 0 → -(j : Int) ≤ 0 → 0 ≤ g.toInt → g.toInt ≤ (j : Int) → (q.toInt = 0 ∧ ¬ (1 ≤ s.toInt ∧ s.toInt ≤ 20 ∧ (∀ t : Nat, t < s.toInt.toNat → ab_ri h 545 (t : Int) = 46 ∨ ab_ri h 545 (t : Int) ∈ ab_let)) ∨ q.toInt = 1 ∧ 1 ≤ s.toInt ∧ s.toInt ≤ 20 ∧ (∀ t : Nat, t < j → ab_ri h 545 (t : Int) = 46 ∨ ab_ri h 545 (t : Int) ∈ ab_let) ∧ g.toInt = (gq (ab_ri h 545) j : Int)) → mc_R l G mt_X11_stone d Q (54, [(0, .ref 542), (1, .int s), (2, .int b), (3, .int g), (4, .int q), (5, .int i)], [], h, n, 0, 0) := by
  have hmi : mt_X11_stone ∈ mt_prog := List.mem_of_getElem? mi_X11_stone
  intro c
  induction c with
  | zero =>
    intro j g q i hc hi hjs _ hg0 hg1 hinv
    refine mc_cx hmi 2 (F' := (57, [(0, .ref 542), (1, .int s), (2, .int b), (3, .int g), (4, .int q), (5, .int i)], [.int s, .int i], h, n, 0, 0)) (by with_unfolding_all rfl) ?_
    refine mc_ci hmi (c := .ge) (tg := 125) (pc' := 60) rfl rfl rfl hi rfl (fun (q101 : s.toInt ≤ (j : Int)) => ?_) (fun (q101 : (j : Int) < s.toInt) => ?_)
    · refine mc_lvs (lv' := [(0, .ref 542), (1, .int s), (2, .int b), (3, .int g), (4, .int q)]) (by simp) ?_
      refine kk g q ?_
      rcases hinv with z | ⟨z1, z2, z3, z4, z5⟩
      · exact Or.inl z
      · have e : s.toInt.toNat = j := by omega
        rw [e]; exact Or.inr ⟨z1, z2, z3, z4, z5⟩
    · exact absurd q101 (by omega)
  | succ c ih =>
    intro j g q i hc hi hjs _ hg0 hg1 hinv
    refine mc_cx hmi 2 (F' := (57, [(0, .ref 542), (1, .int s), (2, .int b), (3, .int g), (4, .int q), (5, .int i)], [.int s, .int i], h, n, 0, 0)) (by with_unfolding_all rfl) ?_
    refine mc_ci hmi (c := .ge) (tg := 125) (pc' := 60) rfl rfl rfl hi rfl (fun (q102 : s.toInt ≤ (j : Int)) => ?_) (fun (q102 : (j : Int) < s.toInt) => ?_)
    · refine mc_lvs (lv' := [(0, .ref 542), (1, .int s), (2, .int b), (3, .int g), (4, .int q)]) (by simp) ?_
      refine kk g q ?_
      rcases hinv with z | ⟨z1, z2, z3, z4, z5⟩
      · exact Or.inl z
      · have e : s.toInt.toNat = j := by omega
        rw [e]; exact Or.inr ⟨z1, z2, z3, z4, z5⟩
    · refine mc_cx hmi 1 (F' := (62, [(0, .ref 542), (1, .int s), (2, .int b), (3, .int g), (4, .int q), (5, .int i)], [.int q], h, n, 0, 0)) (by with_unfolding_all rfl) ?_
      refine mc_cz hmi (c := .eq) (tg := 125) (pc' := 65) rfl rfl rfl rfl (fun (q103 : q.toInt = 0) => ?_) (fun (q103 : q.toInt ≠ 0) => ?_)
      · refine mc_lvs (lv' := [(0, .ref 542), (1, .int s), (2, .int b), (3, .int g), (4, .int q)]) (by simp) ?_
        exact kk g q (hinv.elim Or.inl (fun z => absurd z.1 (by omega)))
      · obtain ⟨z1, z2, z3, z4, z5⟩ : q.toInt = 1 ∧ 1 ≤ s.toInt ∧ s.toInt ≤ 20 ∧ (∀ t : Nat, t < j → ab_ri h 545 (t : Int) = 46 ∨ ab_ri h 545 (t : Int) ∈ ab_let) ∧ g.toInt = (gq (ab_ri h 545) j : Int) := by
          rcases hinv with z | z
          · exact absurd z.1 q103
          · exact z
        refine mc_cx hmi 2 (F' := (67, [(0, .ref 542), (1, .int s), (2, .int b), (3, .int g), (4, .int q), (5, .int i)], [.ref 542, .int g], h, n, 0, 0)) (by with_unfolding_all rfl) ?_
        refine mc_getr hmi H (k := 542) (c := 545) (pc' := 70) rfl rfl rfl rfl rfl ?_
        refine mc_cx hmi 1 (F' := (72, [(0, .ref 542), (1, .int s), (2, .int b), (3, .int g), (4, .int q), (5, .int i)], [.int i, .ref 545, .int g], h, n, 0, 0)) (by with_unfolding_all rfl) ?_
        refine mc_bald hmi H (k := 545) (i := (j : Int)) (pc' := 73) rfl rfl rfl hi (by omega) (by omega) rfl (fun y104 e105 r106 r107 => ?_)
        rw [e105] at r106 r107
        refine mc_cx hmi 1 (F' := (75, [(0, .ref 542), (1, .int s), (2, .int b), (3, .int g), (4, .int q), (5, .int i)], [.int (Int8.ofInt 46).toInt32, .int y104, .int g], h, n, 0, 0)) (by with_unfolding_all rfl) ?_
        have k83 : ∀ u : Int32, u.toInt = (if ab_ri h 545 (j : Int) = 46 then (1 : Int) else 0) → mc_R l G mt_X11_stone d Q (83, [(0, .ref 542), (1, .int s), (2, .int b), (3, .int g), (4, .int q), (5, .int i)], [.int u, .int g], h, n, 0, 0) := by
          intro u hu
          have hu1 : 0 ≤ u.toInt ∧ u.toInt ≤ 1 := by rw [hu]; split <;> decide
          refine mc_cx hmi 3 (F' := (86, [(3, .int (g + u)), (0, .ref 542), (1, .int s), (2, .int b), (4, .int q), (5, .int i)], [.ref 542], h, n, 0, 0)) (by with_unfolding_all rfl) ?_
          have e108 : (g + u).toInt = g.toInt + u.toInt := mc_add rfl rfl (by omega) (by omega)
          refine mc_getr hmi H (k := 542) (c := 545) (pc' := 89) rfl rfl rfl rfl rfl ?_
          refine mc_cx hmi 1 (F' := (91, [(3, .int (g + u)), (0, .ref 542), (1, .int s), (2, .int b), (4, .int q), (5, .int i)], [.int i, .ref 545], h, n, 0, 0)) (by with_unfolding_all rfl) ?_
          refine mc_bald hmi H (k := 545) (i := (j : Int)) (pc' := 92) rfl rfl rfl hi (by omega) (by omega) rfl (fun y109 e110 r111 r112 => ?_)
          rw [e110] at r111 r112
          refine mc_cx hmi 1 (F' := (94, [(3, .int (g + u)), (0, .ref 542), (1, .int s), (2, .int b), (4, .int q), (5, .int i)], [.int (Int8.ofInt 46).toInt32, .int y109], h, n, 0, 0)) (by with_unfolding_all rfl) ?_
          have egq : (g + u).toInt = (gq (ab_ri h 545) (j + 1) : Int) := by
            rw [e108, hu, z5]
            show _ = ((gq (ab_ri h 545) j + (if ab_ri h 545 (j : Int) = 46 then 1 else 0) : Nat) : Int)
            split <;> rfl
          have k117 : ∀ v : Int32, (v.toInt = 0 ∧ ¬ (ab_ri h 545 (j : Int) = 46 ∨ ab_ri h 545 (j : Int) ∈ ab_let) ∨ v.toInt = 1 ∧ (ab_ri h 545 (j : Int) = 46 ∨ ab_ri h 545 (j : Int) ∈ ab_let)) → mc_R l G mt_X11_stone d Q (117, [(3, .int (g + u)), (0, .ref 542), (1, .int s), (2, .int b), (4, .int q), (5, .int i)], [.int v], h, n, 0, 0) := by
            intro v hv
            refine mc_cx hmi 3 (F' := (54, [(5, .int (i + Int32.ofInt 1)), (4, .int v), (3, .int (g + u)), (0, .ref 542), (1, .int s), (2, .int b)], [], h, n, 0, 0)) (by with_unfolding_all rfl) ?_
            have e113 : (i + Int32.ofInt 1).toInt = (j : Int) + 1 := mc_add hi (by decide) (by omega) (by omega)
            refine mc_lvs (lv' := [(0, .ref 542), (1, .int s), (2, .int b), (3, .int (g + u)), (4, .int v), (5, .int (i + Int32.ofInt 1))]) (by simp) ?_
            refine ih (j + 1) (g + u) v (i + Int32.ofInt 1) (by omega) (by rw [e113]; omega) (by omega) (by omega) (by rw [e108]; omega) (by rw [e108]; omega) ?_
            rcases hv with hv | ⟨hv, hl⟩
            · exact Or.inl ⟨hv.1, fun u => hv.2 (u.2.2 j (by omega))⟩
            · refine Or.inr ⟨hv, z2, z3, fun t ht => ?_, egq⟩
              by_cases e : t = j
              · rw [e]; exact hl
              · exact z4 t (by omega)
          refine mc_ci hmi (c := .eq) (tg := 112) (pc' := 97) rfl rfl rfl e110 (by decide) (fun (q114 : ab_ri h 545 ((j : Int)) = 46) => ?_) (fun (q114 : ab_ri h 545 ((j : Int)) ≠ 46) => ?_)
          · refine mc_cx hmi 2 (F' := (117, [(3, .int (g + u)), (0, .ref 542), (1, .int s), (2, .int b), (4, .int q), (5, .int i)], [.int (Int32.ofInt 1)], h, n, 0, 0)) (by with_unfolding_all rfl) ?_
            exact k117 _ (Or.inr ⟨by decide, Or.inl q114⟩)
          · refine mc_cx hmi 2 (F' := (99, [(3, .int (g + u)), (0, .ref 542), (1, .int s), (2, .int b), (4, .int q), (5, .int i)], [.ref 542, .ref 542], h, n, 0, 0)) (by with_unfolding_all rfl) ?_
            refine mc_getr hmi H (k := 542) (c := 545) (pc' := 102) rfl rfl rfl rfl rfl ?_
            refine mc_cx hmi 1 (F' := (104, [(3, .int (g + u)), (0, .ref 542), (1, .int s), (2, .int b), (4, .int q), (5, .int i)], [.int i, .ref 545, .ref 542], h, n, 0, 0)) (by with_unfolding_all rfl) ?_
            refine mc_bald hmi H (k := 545) (i := (j : Int)) (pc' := 105) rfl rfl rfl hi (by omega) (by omega) rfl (fun y115 e116 r117 r118 => ?_)
            rw [e116] at r117 r118
            refine mc_callP hmi (en := (105, .invokevirtual 116, 3, (3, 155, 11, 0), [1288, 76, 1286])) rfl (q := (mt_X11_signOf, [.ref 542, .int y115], [])) (mc_inv H (as := [.int y115]) (rest := []) rfl (by with_unfolding_all rfl) rfl rfl rfl) ⟨rfl, rfl⟩ (pc' := 108) rfl (mc_signOf hd H y115) (fun y119 e120 => ?_)
            rw [e116] at e120
            refine mc_cx hmi 1 (F' := (109, [(3, .int (g + u)), (0, .ref 542), (1, .int s), (2, .int b), (4, .int q), (5, .int i)], [.int (Int32.ofInt (-1)), .int y119], h, n, 0, 0)) (by with_unfolding_all rfl) ?_
            refine mc_ci hmi (c := .eq) (tg := 116) (pc' := 112) rfl rfl rfl rfl (by decide) (fun (q121 : y119.toInt = (-1)) => ?_) (fun (q121 : y119.toInt ≠ (-1)) => ?_)
            · refine mc_cx hmi 1 (F' := (117, [(3, .int (g + u)), (0, .ref 542), (1, .int s), (2, .int b), (4, .int q), (5, .int i)], [.int (Int32.ofInt 0)], h, n, 0, 0)) (by with_unfolding_all rfl) ?_
              exact k117 _ (Or.inl ⟨by decide, fun u => u.elim q114 (fun m => e120.elim (fun q => by omega) (fun q => q.1 m))⟩)
            · refine mc_cx hmi 2 (F' := (117, [(3, .int (g + u)), (0, .ref 542), (1, .int s), (2, .int b), (4, .int q), (5, .int i)], [.int (Int32.ofInt 1)], h, n, 0, 0)) (by with_unfolding_all rfl) ?_
              exact k117 _ (Or.inr ⟨by decide, Or.inr (e120.elim (fun q => q.1) (fun q => absurd q.2 q121))⟩)
        refine mc_ci hmi (c := .ne) (tg := 82) (pc' := 78) rfl rfl rfl e105 (by decide) (fun (q122 : ab_ri h 545 ((j : Int)) ≠ 46) => ?_) (fun (q122 : ab_ri h 545 ((j : Int)) = 46) => ?_)
        · refine mc_cx hmi 1 (F' := (83, [(0, .ref 542), (1, .int s), (2, .int b), (3, .int g), (4, .int q), (5, .int i)], [.int (Int32.ofInt 0), .int g], h, n, 0, 0)) (by with_unfolding_all rfl) ?_
          exact k83 _ (by rw [if_neg q122]; decide)
        · refine mc_cx hmi 2 (F' := (83, [(0, .ref 542), (1, .int s), (2, .int b), (3, .int g), (4, .int q), (5, .int i)], [.int (Int32.ofInt 1), .int g], h, n, 0, 0)) (by with_unfolding_all rfl) ?_
          exact k83 _ (by rw [if_pos q122]; decide)
set_option maxRecDepth 100000 in
theorem st_2E {l : Launch} {G : ax_T} {d : Nat} {Q : Option Value → ax_H → Nat → Prop} {h : ax_H} {n : Nat} (hd : 1 ≤ d) (s b : Int32) {N : Nat} (hs : s.toInt = (N : Int)) (hN : N ≤ 20) (hok : (∀ t : Nat, t < N → ab_ri h 545 (t : Int) = 46 ∨ ab_ri h 545 (t : Int) ∈ ab_let)) (kk : ∀ h' : ax_H, mc_HW h' n → (∀ (k' : Nat) (i' : Int), k' ≠ 554 → ab_rd h' k' i' = ab_rd h k' i') → (∀ t : Nat, t < N → (ab_ri h' 554 (t : Int) = 14 ↔ ab_ri h 545 (t : Int) = 46)) → mc_R l G mt_X11_stone d Q (188, [(0, .ref 542), (1, .int s), (2, .int b)], [], h', n, 0, 0)) : ∀ (c j : Nat) (h' : ax_H) (i : Int32), j + c = N → i.toInt = (j : Int) → mc_HW h' n → (∀ (k' : Nat) (i' : Int), k' ≠ 554 → ab_rd h' k' i' = ab_rd h k' i') → (∀ t : Nat, t < j → (ab_ri h' 554 (t : Int) = 14 ↔ ab_ri h 545 (t : Int) = 46)) → mc_R l G mt_X11_stone d Q (141, [(0, .ref 542), (1, .int s), (2, .int b), (5, .int i)], [], h', n, 0, 0) := by
  have hmi : mt_X11_stone ∈ mt_prog := List.mem_of_getElem? mi_X11_stone
  intro c
  induction c with
  | zero =>
    intro j h' i hj hi H' hfr hz
    refine mc_cx hmi 2 (F' := (144, [(0, .ref 542), (1, .int s), (2, .int b), (5, .int i)], [.int s, .int i], h', n, 0, 0)) (by with_unfolding_all rfl) ?_
    refine mc_ci hmi (c := .ge) (tg := 188) (pc' := 147) rfl rfl rfl hi hs (fun (q123 : (N : Int) ≤ (j : Int)) => ?_) (fun (q123 : (j : Int) < (N : Int)) => ?_)
    · refine mc_lvs (lv' := [(0, .ref 542), (1, .int s), (2, .int b)]) (by simp) ?_
      have e : j = N := by omega
      rw [e] at hz
      exact kk h' H' hfr hz
    · exact absurd q123 (by omega)
  | succ c ih =>
    intro j h' i hj hi H' hfr hz
    refine mc_cx hmi 2 (F' := (144, [(0, .ref 542), (1, .int s), (2, .int b), (5, .int i)], [.int s, .int i], h', n, 0, 0)) (by with_unfolding_all rfl) ?_
    refine mc_ci hmi (c := .ge) (tg := 188) (pc' := 147) rfl rfl rfl hi hs (fun (q124 : (N : Int) ≤ (j : Int)) => ?_) (fun (q124 : (j : Int) < (N : Int)) => ?_)
    · exact absurd q124 (by omega)
    · have hpg : ab_ri h' 545 (j : Int) = ab_ri h 545 (j : Int) := ab_ri_of (hfr 545 _ (by decide))
      refine mc_cx hmi 1 (F' := (148, [(0, .ref 542), (1, .int s), (2, .int b), (5, .int i)], [.ref 542], h', n, 0, 0)) (by with_unfolding_all rfl) ?_
      refine mc_getr hmi H' (k := 542) (c := 554) (pc' := 151) rfl rfl rfl rfl rfl ?_
      refine mc_cx hmi 2 (F' := (154, [(0, .ref 542), (1, .int s), (2, .int b), (5, .int i)], [.ref 542, .int i, .ref 554], h', n, 0, 0)) (by with_unfolding_all rfl) ?_
      refine mc_getr hmi H' (k := 542) (c := 545) (pc' := 157) rfl rfl rfl rfl rfl ?_
      refine mc_cx hmi 1 (F' := (159, [(0, .ref 542), (1, .int s), (2, .int b), (5, .int i)], [.int i, .ref 545, .int i, .ref 554], h', n, 0, 0)) (by with_unfolding_all rfl) ?_
      refine mc_bald hmi H' (k := 545) (i := (j : Int)) (pc' := 160) rfl rfl rfl hi (by omega) (by omega) rfl (fun y125 e126 r127 r128 => ?_)
      rw [e126] at r127 r128
      refine mc_cx hmi 1 (F' := (162, [(0, .ref 542), (1, .int s), (2, .int b), (5, .int i)], [.int (Int8.ofInt 46).toInt32, .int y125, .int i, .ref 554], h', n, 0, 0)) (by with_unfolding_all rfl) ?_
      have k181 : ∀ u : Int32, 0 ≤ u.toInt → u.toInt ≤ 14 → (u.toInt = 14 ↔ ab_ri h 545 (j : Int) = 46) → mc_R l G mt_X11_stone d Q (181, [(0, .ref 542), (1, .int s), (2, .int b), (5, .int i)], [.int u, .int i, .ref 554], h', n, 0, 0) := by
        intro u hu0 hu1 hu
        have b129 := Int32.le_toInt (u)
        have b130 := Int32.toInt_lt (u)
        refine mc_iast hmi H' (k := 554) (i := (j : Int)) (pc' := 182) rfl rfl rfl hi (by omega) (by omega) (by rw [show (u).toInt = u.toInt from rfl]; omega) (by rw [show (u).toInt = u.toInt from rfl]; omega) rfl (fun h131 H132 w133 => ?_)
        refine mc_cx hmi 2 (F' := (141, [(5, .int (i + Int32.ofInt 1)), (0, .ref 542), (1, .int s), (2, .int b)], [], h131, n, 0, 0)) (by with_unfolding_all rfl) ?_
        have e134 : (i + Int32.ofInt 1).toInt = (j : Int) + 1 := mc_add hi (by decide) (by omega) (by omega)
        refine mc_lvs (lv' := [(0, .ref 542), (1, .int s), (2, .int b), (5, .int (i + Int32.ofInt 1))]) (by simp) ?_
        refine ih (j + 1) h131 (i + Int32.ofInt 1) (by omega) (by rw [e134]; omega) H132 (fun k' i' hk => by rw [w133, if_neg (fun q => hk q.1)]; exact hfr k' i' hk) (fun t ht => ?_)
        rw [mc_ri w133]
        by_cases e : t = j
        · rw [if_pos ⟨rfl, by rw [e]⟩, e]; exact hu
        · rw [if_neg (fun q => by have := q.2; omega)]; exact hz t (by omega)
      refine mc_ci hmi (c := .ne) (tg := 170) (pc' := 165) rfl rfl rfl e126 (by decide) (fun (q135 : ab_ri h' 545 ((j : Int)) ≠ 46) => ?_) (fun (q135 : ab_ri h' 545 ((j : Int)) = 46) => ?_)
      · refine mc_cx hmi 2 (F' := (172, [(0, .ref 542), (1, .int s), (2, .int b), (5, .int i)], [.ref 542, .ref 542, .int i, .ref 554], h', n, 0, 0)) (by with_unfolding_all rfl) ?_
        refine mc_getr hmi H' (k := 542) (c := 545) (pc' := 175) rfl rfl rfl rfl rfl ?_
        refine mc_cx hmi 1 (F' := (177, [(0, .ref 542), (1, .int s), (2, .int b), (5, .int i)], [.int i, .ref 545, .ref 542, .int i, .ref 554], h', n, 0, 0)) (by with_unfolding_all rfl) ?_
        refine mc_bald hmi H' (k := 545) (i := (j : Int)) (pc' := 178) rfl rfl rfl hi (by omega) (by omega) rfl (fun y136 e137 r138 r139 => ?_)
        rw [e137] at r138 r139
        refine mc_callP hmi (en := (178, .invokevirtual 116, 3, (3, 155, 11, 0), [1288, 76, 1286])) rfl (q := (mt_X11_signOf, [.ref 542, .int y136], [.int i, .ref 554])) (mc_inv H' (as := [.int y136]) (rest := [.int i, .ref 554]) rfl (by with_unfolding_all rfl) rfl rfl rfl) ⟨rfl, rfl⟩ (pc' := 181) rfl (mc_signOf hd H' y136) (fun y140 e141 => ?_)
        rw [e137, hpg] at e141
        have hne : ab_ri h 545 (j : Int) ≠ 46 := by rw [← hpg]; exact q135
        have hy : 0 ≤ y140.toInt ∧ y140.toInt ≤ 13 := e141.elim (fun q => q.2) (fun q => ((hok j (by omega)).elim (fun z => absurd z hne) (fun z => absurd z q.1)))
        exact k181 y140 hy.1 (by omega) ⟨fun q => by omega, fun q => absurd q hne⟩
      · refine mc_cx hmi 2 (F' := (181, [(0, .ref 542), (1, .int s), (2, .int b), (5, .int i)], [.int (Int8.ofInt 14).toInt32, .int i, .ref 554], h', n, 0, 0)) (by with_unfolding_all rfl) ?_
        exact k181 _ (by decide) (by decide) ⟨fun _ => by rw [← hpg]; exact q135, fun _ => by decide⟩
set_option maxRecDepth 100000 in
theorem mc_stoneE {l : Launch} {G : ax_T} {d : Nat} {h : ax_H} {n : Nat} (hd : 2 ≤ d) (H : mc_HW h n) : mc_M l G d mt_X11_stone [.ref 542] h n (fun r' h' n' => n' = n ∧ mc_HW h' n ∧ (∃ y : Int32, r' = some (.int y) ∧ (y = Int32.ofInt (-103) ∧ ¬ pg_st (ab_ri h 545) (ab_ri h 542 2) ∧ h' = h ∨ pg_st (ab_ri h 545) (ab_ri h 542 2) ∧ y.toInt = pg_po (ab_ri h 545) (ab_ri h 542 2) ∧ ab_rd h' 542 2 = some (.int (Int32.ofInt 0)))) ∧ (∀ (k' : Nat) (i' : Int), k' ≠ 554 → (k' = 542 → i' ≠ 2) → (k' = 542 → i' ≠ 14) → (k' = 542 → i' ≠ 15) → ab_rd h' k' i' = ab_rd h k' i') ∧ (ab_gc h 554 (ab_ri h 542 14).toNat ≤ 3 → ab_gc h' 554 (ab_ri h' 542 14).toNat ≤ 3)) := by
  obtain ⟨d, rfl⟩ : ∃ e, d = e + 1 := ⟨d - 1, by omega⟩
  have hmi : mt_X11_stone ∈ mt_prog := List.mem_of_getElem? mi_X11_stone
  refine mc_to hmi rfl ?_
  show mc_R _ _ _ _ _ (0, [(0, .ref 542)], [], h, n, 0, 0)
  refine mc_cx hmi 1 (F' := (1, [(0, .ref 542)], [.ref 542], h, n, 0, 0)) (by with_unfolding_all rfl) ?_
  refine mc_geti hmi H (k := 542) (j := 2) (pc' := 4) rfl rfl rfl rfl (fun y142 (e143 : y142.toInt = ab_ri h 542 2) r144 r145 => ?_)
  rw [e143] at r144 r145
  refine mc_cx hmi 2 (F' := (6, [(1, .int y142), (0, .ref 542)], [.int y142], h, n, 0, 0)) (by with_unfolding_all rfl) ?_
  have hs80 : 0 ≤ y142.toInt ∧ y142.toInt ≤ 80 := by rw [e143]; exact ⟨by omega, by omega⟩
  have eL : y142.toInt = ab_ri h 542 2 := e143
  have k27 : ∀ bb : Int32, (bb.toInt = 0 ∧ ¬ (0 < ab_ri h 542 2 ∧ ab_ri h 545 (ab_ri h 542 2 - 1) = 42) ∨ bb.toInt = 1 ∧ 0 < ab_ri h 542 2 ∧ ab_ri h 545 (ab_ri h 542 2 - 1) = 42) → mc_R l G mt_X11_stone d (fun r' h' n' => n' = n ∧ mc_HW h' n ∧ (∃ y : Int32, r' = some (.int y) ∧ (y = Int32.ofInt (-103) ∧ ¬ pg_st (ab_ri h 545) (ab_ri h 542 2) ∧ h' = h ∨ pg_st (ab_ri h 545) (ab_ri h 542 2) ∧ y.toInt = pg_po (ab_ri h 545) (ab_ri h 542 2) ∧ ab_rd h' 542 2 = some (.int (Int32.ofInt 0)))) ∧ (∀ (k' : Nat) (i' : Int), k' ≠ 554 → (k' = 542 → i' ≠ 2) → (k' = 542 → i' ≠ 14) → (k' = 542 → i' ≠ 15) → ab_rd h' k' i' = ab_rd h k' i') ∧ (ab_gc h 554 (ab_ri h 542 14).toNat ≤ 3 → ab_gc h' 554 (ab_ri h' 542 14).toNat ≤ 3)) (27, [(1, .int y142), (0, .ref 542)], [.int bb], h, n, 0, 0) := by
    intro bb hb
    refine mc_cx hmi 3 (F' := (30, [(2, .int bb), (1, .int y142), (0, .ref 542)], [.int bb, .int y142], h, n, 0, 0)) (by with_unfolding_all rfl) ?_
    have k38 : ∀ v : Int32, v.toInt = bb.toInt → mc_R l G mt_X11_stone d (fun r' h' n' => n' = n ∧ mc_HW h' n ∧ (∃ y : Int32, r' = some (.int y) ∧ (y = Int32.ofInt (-103) ∧ ¬ pg_st (ab_ri h 545) (ab_ri h 542 2) ∧ h' = h ∨ pg_st (ab_ri h 545) (ab_ri h 542 2) ∧ y.toInt = pg_po (ab_ri h 545) (ab_ri h 542 2) ∧ ab_rd h' 542 2 = some (.int (Int32.ofInt 0)))) ∧ (∀ (k' : Nat) (i' : Int), k' ≠ 554 → (k' = 542 → i' ≠ 2) → (k' = 542 → i' ≠ 14) → (k' = 542 → i' ≠ 15) → ab_rd h' k' i' = ab_rd h k' i') ∧ (ab_gc h 554 (ab_ri h 542 14).toNat ≤ 3 → ab_gc h' 554 (ab_ri h' 542 14).toNat ≤ 3)) (38, [(2, .int bb), (1, .int y142), (0, .ref 542)], [.int v, .int y142], h, n, 0, 0) := by
      intro v hv
      refine mc_cx hmi 7 (F' := (46, [(3, .int (Int32.ofInt 0)), (1, .int (y142 - v)), (2, .int bb), (0, .ref 542)], [.int (Int8.ofInt 20).toInt32, .int (Int32.ofInt 1), .int (y142 - v)], h, n, 0, 0)) (by with_unfolding_all rfl) ?_
      have e146 : (y142 - v).toInt = y142.toInt - bb.toInt := mc_sub rfl hv (by omega) (by omega)
      have hs2 : 0 ≤ (y142 - v).toInt ∧ (y142 - v).toInt ≤ 80 := by rw [e146]; omega
      have hS : (y142 - v).toInt = pg_po (ab_ri h 545) (ab_ri h 542 2) := by
        unfold pg_po
        rw [e146, eL]
        rcases hb with ⟨u1, u2⟩ | ⟨u1, u2⟩
        · rw [if_neg u2, u1]; omega
        · rw [if_pos u2, u1]
      generalize (y142 - v) = s at *
      refine mc_callP hmi (en := (46, .invokestatic 120, 3, (3, 152, 0, 0), [1291, 1290])) rfl (q := (mt_X11_in, [.int s, .int (Int32.ofInt 1), .int (Int8.ofInt 20).toInt32], [])) (by with_unfolding_all rfl) ⟨rfl, rfl⟩ (pc' := 49) rfl (mc_inP (by omega) s (Int32.ofInt 1) (Int8.ofInt 20).toInt32 _ _) (fun y147 e148 => ?_)
      have hq : y147.toInt = 0 ∧ ¬ (1 ≤ s.toInt ∧ s.toInt ≤ 20) ∨ y147.toInt = 1 ∧ 1 ≤ s.toInt ∧ s.toInt ≤ 20 := by
        have a1 : (Int32.ofInt 1).toInt = 1 := by decide
        have a2 : ((Int8.ofInt 20).toInt32).toInt = 20 := by decide
        omega
      refine mc_cx hmi 3 (F' := (54, [(5, .int (Int32.ofInt 0)), (4, .int y147), (3, .int (Int32.ofInt 0)), (1, .int s), (2, .int bb), (0, .ref 542)], [], h, n, 0, 0)) (by with_unfolding_all rfl) ?_
      refine mc_lvs (lv' := [(0, .ref 542), (1, .int s), (2, .int bb), (3, .int (Int32.ofInt 0)), (4, .int y147), (5, .int (Int32.ofInt 0))]) (by simp) ?_
      refine st_1E (by omega) H s bb hs2.2 (fun g q hinv => ?_) _ 0 _ y147 _ (Nat.le_refl _) rfl (Or.inl hs2.1) (by omega) (by decide) (by decide) (hq.elim (fun z => Or.inl ⟨z.1, fun u => z.2 ⟨u.1, u.2.1⟩⟩) (fun z => Or.inr ⟨z.1, z.2.1, z.2.2, fun t ht => absurd ht (Nat.not_lt_zero t), rfl⟩))
      refine mc_cx hmi 1 (F' := (127, [(0, .ref 542), (1, .int s), (2, .int bb), (3, .int g), (4, .int q)], [.int q], h, n, 0, 0)) (by with_unfolding_all rfl) ?_
      refine mc_cz hmi (c := .eq) (tg := 135) (pc' := 130) rfl rfl rfl rfl (fun (q149 : q.toInt = 0) => ?_) (fun (q149 : q.toInt ≠ 0) => ?_)
      · have hno : ¬ pg_st (ab_ri h 545) (ab_ri h 542 2) := fun u => hinv.elim (fun z => z.2 (by unfold pg_st at u; rw [← hS] at u; exact ⟨u.1, u.2.1, u.2.2.1⟩)) (fun z => absurd z.1 (by omega))
        refine mc_cx hmi 1 (F' := (137, [(0, .ref 542), (1, .int s), (2, .int bb), (3, .int g), (4, .int q)], [.int (Int8.ofInt (-103)).toInt32], h, n, 0, 0)) (by with_unfolding_all rfl) ?_
        exact mc_ret hmi rfl rfl rfl ⟨rfl, H, ⟨_, rfl, Or.inl ⟨by decide, hno, rfl⟩⟩, fun _ _ _ _ _ _ => rfl, id⟩
      · obtain ⟨z1, z2, z3, z4, z5⟩ : q.toInt = 1 ∧ 1 ≤ s.toInt ∧ s.toInt ≤ 20 ∧ (∀ t : Nat, t < s.toInt.toNat → ab_ri h 545 (t : Int) = 46 ∨ ab_ri h 545 (t : Int) ∈ ab_let) ∧ g.toInt = (gq (ab_ri h 545) s.toInt.toNat : Int) := hinv.elim (fun z => absurd z.1 q149) id
        refine mc_cx hmi 2 (F' := (132, [(0, .ref 542), (1, .int s), (2, .int bb), (3, .int g), (4, .int q)], [.int (Int32.ofInt 3), .int g], h, n, 0, 0)) (by with_unfolding_all rfl) ?_
        refine mc_ci hmi (c := .le) (tg := 138) (pc' := 135) rfl rfl rfl rfl (by decide) (fun (q150 : g.toInt ≤ 3) => ?_) (fun (q150 : 3 < g.toInt) => ?_)
        · have hst : pg_st (ab_ri h 545) (ab_ri h 542 2) := by unfold pg_st; rw [← hS]; exact ⟨z2, z3, z4, by omega⟩
          refine mc_cx hmi 2 (F' := (141, [(5, .int (Int32.ofInt 0)), (0, .ref 542), (1, .int s), (2, .int bb), (3, .int g), (4, .int q)], [], h, n, 0, 0)) (by with_unfolding_all rfl) ?_
          refine mc_lvs (lv' := [(0, .ref 542), (1, .int s), (2, .int bb), (5, .int (Int32.ofInt 0))]) (by simp) ?_
          refine st_2E (h := h) (by omega) s bb (N := s.toInt.toNat) (by omega) (by omega) z4 (fun h2 H2 f2 g2 => ?_) s.toInt.toNat 0 h (Int32.ofInt 0) (Nat.zero_add _) rfl H (fun _ _ _ => rfl) (fun t ht => absurd ht (Nat.not_lt_zero t))
          refine mc_cx hmi 2 (F' := (190, [(0, .ref 542), (1, .int s), (2, .int bb)], [.int s, .ref 542], h2, n, 0, 0)) (by with_unfolding_all rfl) ?_
          refine mc_puti hmi H2 (k := 542) (j := 14) (pc' := 193) rfl rfl rfl rfl (by rw [show (s).toInt = s.toInt from rfl]; omega) (by rw [show (s).toInt = s.toInt from rfl]; omega) rfl (fun h151 H152 w153 => ?_)
          refine mc_cx hmi 2 (F' := (195, [(0, .ref 542), (1, .int s), (2, .int bb)], [.int bb, .ref 542], h151, n, 0, 0)) (by with_unfolding_all rfl) ?_
          refine mc_puti hmi H152 (k := 542) (j := 15) (pc' := 198) rfl rfl rfl rfl (by rw [show (bb).toInt = bb.toInt from rfl]; omega) (by rw [show (bb).toInt = bb.toInt from rfl]; omega) rfl (fun h154 H155 w156 => ?_)
          refine mc_cx hmi 2 (F' := (200, [(0, .ref 542), (1, .int s), (2, .int bb)], [.int (Int32.ofInt 0), .ref 542], h154, n, 0, 0)) (by with_unfolding_all rfl) ?_
          refine mc_puti hmi H155 (k := 542) (j := 2) (pc' := 203) rfl rfl rfl rfl (by rw [show ((Int32.ofInt 0)).toInt = 0 from by decide]; omega) (by rw [show ((Int32.ofInt 0)).toInt = 0 from by decide]; omega) rfl (fun h157 H158 w159 => ?_)
          refine mc_cx hmi 1 (F' := (204, [(0, .ref 542), (1, .int s), (2, .int bb)], [.int s], h157, n, 0, 0)) (by with_unfolding_all rfl) ?_
          refine mc_ret hmi rfl rfl rfl ⟨rfl, H158, ⟨_, rfl, Or.inr ⟨hst, hS, ?_⟩⟩, fun k' i' p1 p2 p3 p4 => ?_, fun _ => ?_⟩
          · rw [w159, if_pos ⟨rfl, rfl⟩]
          · rw [w159, if_neg (fun q => p2 q.1 q.2), w156, if_neg (fun q => p4 q.1 q.2), w153, if_neg (fun q => p3 q.1 q.2)]; exact f2 k' i' p1
          · have e1 : ab_ri h157 542 14 = s.toInt := by rw [mc_ri w159, if_neg (fun q => absurd q.2 (by decide)), mc_ri w156, if_neg (fun q => absurd q.2 (by decide)), mc_ri w153, if_pos ⟨rfl, rfl⟩]
            rw [e1, gc_gq (f := ab_ri h 545) s.toInt.toNat (fun t ht => by rw [mc_ri w159, if_neg (fun q => absurd q.1 (by decide)), mc_ri w156, if_neg (fun q => absurd q.1 (by decide)), mc_ri w153, if_neg (fun q => absurd q.1 (by decide))]; exact g2 t ht)]
            omega
        · have hno : ¬ pg_st (ab_ri h 545) (ab_ri h 542 2) := fun u => by unfold pg_st at u; rw [← hS] at u; have := u.2.2.2; omega
          refine mc_cx hmi 1 (F' := (137, [(0, .ref 542), (1, .int s), (2, .int bb), (3, .int g), (4, .int q)], [.int (Int8.ofInt (-103)).toInt32], h, n, 0, 0)) (by with_unfolding_all rfl) ?_
          exact mc_ret hmi rfl rfl rfl ⟨rfl, H, ⟨_, rfl, Or.inl ⟨by decide, hno, rfl⟩⟩, fun _ _ _ _ _ _ => rfl, id⟩
    refine mc_cz hmi (c := .eq) (tg := 37) (pc' := 33) rfl rfl rfl rfl (fun (q160 : bb.toInt = 0) => ?_) (fun (q160 : bb.toInt ≠ 0) => ?_)
    · refine mc_cx hmi 1 (F' := (38, [(2, .int bb), (1, .int y142), (0, .ref 542)], [.int (Int32.ofInt 0), .int y142], h, n, 0, 0)) (by with_unfolding_all rfl) ?_
      exact k38 _ (by rw [q160]; decide)
    · refine mc_cx hmi 2 (F' := (38, [(2, .int bb), (1, .int y142), (0, .ref 542)], [.int (Int32.ofInt 1), .int y142], h, n, 0, 0)) (by with_unfolding_all rfl) ?_
      exact k38 _ (by rw [show bb.toInt = 1 from hb.elim (fun z => absurd z.1 q160) (fun z => z.1)]; decide)
  refine mc_cz hmi (c := .le) (tg := 26) (pc' := 9) rfl rfl rfl rfl (fun (q161 : y142.toInt ≤ 0) => ?_) (fun (q161 : 0 < y142.toInt) => ?_)
  · refine mc_cx hmi 1 (F' := (27, [(1, .int y142), (0, .ref 542)], [.int (Int32.ofInt 0)], h, n, 0, 0)) (by with_unfolding_all rfl) ?_
    exact k27 _ (Or.inl ⟨by decide, fun u => by omega⟩)
  · refine mc_cx hmi 1 (F' := (10, [(1, .int y142), (0, .ref 542)], [.ref 542], h, n, 0, 0)) (by with_unfolding_all rfl) ?_
    refine mc_getr hmi H (k := 542) (c := 545) (pc' := 13) rfl rfl rfl rfl rfl ?_
    refine mc_cx hmi 3 (F' := (16, [(1, .int y142), (0, .ref 542)], [.int (y142 - (Int32.ofInt 1)), .ref 545], h, n, 0, 0)) (by with_unfolding_all rfl) ?_
    have e162 : (y142 - (Int32.ofInt 1)).toInt = y142.toInt - 1 := mc_sub rfl (by decide) (by omega) (by omega)
    refine mc_bald hmi H (k := 545) (i := (y142.toInt - 1)) (pc' := 17) rfl rfl rfl e162 (by omega) (by omega) rfl (fun y163 e164 r165 r166 => ?_)
    rw [e164] at r165 r166
    refine mc_cx hmi 1 (F' := (19, [(1, .int y142), (0, .ref 542)], [.int (Int8.ofInt 42).toInt32, .int y163], h, n, 0, 0)) (by with_unfolding_all rfl) ?_
    refine mc_ci hmi (c := .ne) (tg := 26) (pc' := 22) rfl rfl rfl e164 (by decide) (fun (q167 : ab_ri h 545 ((y142.toInt - 1)) ≠ 42) => ?_) (fun (q167 : ab_ri h 545 ((y142.toInt - 1)) = 42) => ?_)
    · refine mc_cx hmi 1 (F' := (27, [(1, .int y142), (0, .ref 542)], [.int (Int32.ofInt 0)], h, n, 0, 0)) (by with_unfolding_all rfl) ?_
      rw [eL] at q167
      exact k27 _ (Or.inl ⟨by decide, fun u => q167 u.2⟩)
    · refine mc_cx hmi 2 (F' := (27, [(1, .int y142), (0, .ref 542)], [.int (Int32.ofInt 1)], h, n, 0, 0)) (by with_unfolding_all rfl) ?_
      rw [eL] at q167
      exact k27 _ (Or.inr ⟨by decide, by omega, q167⟩)
set_option maxRecDepth 100000 in
theorem is_loopE {l : Launch} {G : ax_T} {d : Nat} {h : ax_H} {n : Nat} (HS : SGN l G) (hd : 9 ≤ d) (H : mc_HW h n) (s : Int32) (hs : s.toInt = PO h) (h1 : 1 ≤ PO h) (h20 : PO h ≤ 20) : ∀ (c j : Nat) (g i : Int32), (j : Int) + (c : Int) = PO h → i.toInt = (j : Int) → g.toInt = (gq (ab_ri h 2) j : Int) → (∀ t : Nat, t < j → ab_ri h 2 (t : Int) = 46 ∨ ab_ri h 2 (t : Int) ∈ ab_let) → mc_R l G mt_X7_isStone d (mc_P h n fun y => y.toInt = 0 ∧ ¬ (1 ≤ PO h ∧ PO h ≤ 20 ∧ (∀ t : Nat, t < (PO h).toNat → ab_ri h 2 (t : Int) = 46 ∨ ab_ri h 2 (t : Int) ∈ ab_let) ∧ gq (ab_ri h 2) (PO h).toNat ≤ 3) ∨ y.toInt = 1 ∧ (1 ≤ PO h ∧ PO h ≤ 20 ∧ (∀ t : Nat, t < (PO h).toNat → ab_ri h 2 (t : Int) = 46 ∨ ab_ri h 2 (t : Int) ∈ ab_let) ∧ gq (ab_ri h 2) (PO h).toNat ≤ 3)) (22, [(0, .ref 1), (1, .int s), (2, .int g), (3, .int i)], [], h, n, 0, 0) := by
  have hmi : mt_X7_isStone ∈ mt_prog := List.mem_of_getElem? mi_X7_isStone
  intro c
  induction c with
  | zero =>
    intro j g i hj hi hg hok
    have hgl := gq_le (ab_ri h 2) j
    refine mc_cx hmi 2 (F' := (24, [(0, .ref 1), (1, .int s), (2, .int g), (3, .int i)], [.int s, .int i], h, n, 0, 0)) (by with_unfolding_all rfl) ?_
    refine mc_ci hmi (c := .ge) (tg := 64) (pc' := 27) rfl rfl rfl hi hs (fun (q168 : (PO h) ≤ (j : Int)) => ?_) (fun (q168 : (j : Int) < (PO h)) => ?_)
    · have e : j = (PO h).toNat := by omega
      rw [e] at hg hok
      refine mc_cx hmi 2 (F' := (66, [(0, .ref 1), (1, .int s), (2, .int g), (3, .int i)], [.int (Int32.ofInt 3), .int g], h, n, 0, 0)) (by with_unfolding_all rfl) ?_
      refine mc_ci hmi (c := .gt) (tg := 73) (pc' := 69) rfl rfl rfl hg (by decide) (fun (q169 : 3 < (gq (ab_ri h 2) (PO h).toNat : Int)) => ?_) (fun (q169 : (gq (ab_ri h 2) (PO h).toNat : Int) ≤ 3) => ?_)
      · refine mc_cx hmi 1 (F' := (74, [(0, .ref 1), (1, .int s), (2, .int g), (3, .int i)], [.int (Int32.ofInt 0)], h, n, 0, 0)) (by with_unfolding_all rfl) ?_
        exact mc_ret hmi rfl rfl (mc_rb (by decide)) ⟨rfl, rfl, _, rfl, Or.inl ⟨by decide, fun u => by have := u.2.2.2; omega⟩⟩
      · refine mc_cx hmi 2 (F' := (74, [(0, .ref 1), (1, .int s), (2, .int g), (3, .int i)], [.int (Int32.ofInt 1)], h, n, 0, 0)) (by with_unfolding_all rfl) ?_
        exact mc_ret hmi rfl rfl (mc_rb (by decide)) ⟨rfl, rfl, _, rfl, Or.inr ⟨by decide, h1, h20, hok, by omega⟩⟩
    · exact absurd q168 (by omega)
  | succ c ih =>
    intro j g i hj hi hg hok
    have hgl := gq_le (ab_ri h 2) j
    refine mc_cx hmi 2 (F' := (24, [(0, .ref 1), (1, .int s), (2, .int g), (3, .int i)], [.int s, .int i], h, n, 0, 0)) (by with_unfolding_all rfl) ?_
    refine mc_ci hmi (c := .ge) (tg := 64) (pc' := 27) rfl rfl rfl hi hs (fun (q170 : (PO h) ≤ (j : Int)) => ?_) (fun (q170 : (j : Int) < (PO h)) => ?_)
    · exact absurd q170 (by omega)
    · have k58 : ∀ v : Int32, v.toInt = (gq (ab_ri h 2) (j + 1) : Int) → (ab_ri h 2 (j : Int) = 46 ∨ ab_ri h 2 (j : Int) ∈ ab_let) → mc_R l G mt_X7_isStone d (mc_P h n fun y => y.toInt = 0 ∧ ¬ (1 ≤ PO h ∧ PO h ≤ 20 ∧ (∀ t : Nat, t < (PO h).toNat → ab_ri h 2 (t : Int) = 46 ∨ ab_ri h 2 (t : Int) ∈ ab_let) ∧ gq (ab_ri h 2) (PO h).toNat ≤ 3) ∨ y.toInt = 1 ∧ (1 ≤ PO h ∧ PO h ≤ 20 ∧ (∀ t : Nat, t < (PO h).toNat → ab_ri h 2 (t : Int) = 46 ∨ ab_ri h 2 (t : Int) ∈ ab_let) ∧ gq (ab_ri h 2) (PO h).toNat ≤ 3)) (58, [(0, .ref 1), (1, .int s), (2, .int v), (3, .int i)], [], h, n, 0, 0) := by
        intro v hv hl
        refine mc_cx hmi 2 (F' := (22, [(3, .int (i + Int32.ofInt 1)), (0, .ref 1), (1, .int s), (2, .int v)], [], h, n, 0, 0)) (by with_unfolding_all rfl) ?_
        have e171 : (i + Int32.ofInt 1).toInt = (j : Int) + 1 := mc_add hi (by decide) (by omega) (by omega)
        refine mc_lvs (lv' := [(0, .ref 1), (1, .int s), (2, .int v), (3, .int (i + Int32.ofInt 1))]) (by simp) ?_
        refine ih (j + 1) v (i + Int32.ofInt 1) (by omega) (by rw [e171]; omega) hv (fun t ht => ?_)
        by_cases e : t = j
        · rw [e]; exact hl
        · exact hok t (by omega)
      have hge : gq (ab_ri h 2) (j + 1) = gq (ab_ri h 2) j + (if ab_ri h 2 (j : Int) = 46 then 1 else 0) := rfl
      refine mc_cx hmi 1 (F' := (28, [(0, .ref 1), (1, .int s), (2, .int g), (3, .int i)], [.ref 1], h, n, 0, 0)) (by with_unfolding_all rfl) ?_
      refine mc_getr hmi H (k := 1) (c := 2) (pc' := 31) rfl rfl rfl rfl rfl ?_
      refine mc_cx hmi 1 (F' := (32, [(0, .ref 1), (1, .int s), (2, .int g), (3, .int i)], [.int i, .ref 2], h, n, 0, 0)) (by with_unfolding_all rfl) ?_
      refine mc_iald hmi H (k := 2) (i := (j : Int)) (pc' := 33) rfl rfl rfl hi (by omega) (by omega) rfl (fun y172 e173 r174 r175 => ?_)
      rw [e173] at r174 r175
      refine mc_cx hmi 1 (F' := (35, [(0, .ref 1), (1, .int s), (2, .int g), (3, .int i)], [.int (Int8.ofInt 46).toInt32, .int y172], h, n, 0, 0)) (by with_unfolding_all rfl) ?_
      refine mc_ci hmi (c := .ne) (tg := 44) (pc' := 38) rfl rfl rfl e173 (by decide) (fun (q176 : ab_ri h 2 ((j : Int)) ≠ 46) => ?_) (fun (q176 : ab_ri h 2 ((j : Int)) = 46) => ?_)
      · rw [if_neg q176] at hge
        refine mc_cx hmi 1 (F' := (45, [(0, .ref 1), (1, .int s), (2, .int g), (3, .int i)], [.ref 1], h, n, 0, 0)) (by with_unfolding_all rfl) ?_
        refine mc_getr hmi H (k := 1) (c := 2) (pc' := 48) rfl rfl rfl rfl rfl ?_
        refine mc_cx hmi 1 (F' := (49, [(0, .ref 1), (1, .int s), (2, .int g), (3, .int i)], [.int i, .ref 2], h, n, 0, 0)) (by with_unfolding_all rfl) ?_
        refine mc_iald hmi H (k := 2) (i := (j : Int)) (pc' := 50) rfl rfl rfl hi (by omega) (by omega) rfl (fun y178 e179 r180 r181 => ?_)
        rw [e179] at r180 r181
        refine mc_callP hmi (en := (50, .invokestatic 56, 3, (4, 150, 0, 0), [497, 927])) rfl (q := (mt_X10_signOf, [.int y178], [])) (by with_unfolding_all rfl) ⟨rfl, rfl⟩ (pc' := 53) rfl (HS _ h n y178 hd (Or.inr trivial) H (by omega) (by omega)) (fun y182 e183 => ?_)
        rw [e179] at e183
        refine mc_cz hmi (c := .ge) (tg := 58) (pc' := 56) rfl rfl rfl rfl (fun (q184 : 0 ≤ y182.toInt) => ?_) (fun (q184 : y182.toInt < 0) => ?_)
        · exact k58 g (by omega) (Or.inr (e183.elim (fun q => q.1) (fun q => by omega)))
        · refine mc_cx hmi 1 (F' := (57, [(0, .ref 1), (1, .int s), (2, .int g), (3, .int i)], [.int (Int32.ofInt 0)], h, n, 0, 0)) (by with_unfolding_all rfl) ?_
          exact mc_ret hmi rfl rfl (mc_rb (by decide)) ⟨rfl, rfl, _, rfl, Or.inl ⟨by decide, fun u => (u.2.2.1 j (by omega)).elim q176 (fun m => e183.elim (fun q => by omega) (fun q => q.1 m))⟩⟩
      · rw [if_pos q176] at hge
        refine mc_cx hmi 2 (F' := (58, [(2, .int (g + Int32.ofInt 1)), (0, .ref 1), (1, .int s), (3, .int i)], [], h, n, 0, 0)) (by with_unfolding_all rfl) ?_
        have e177 : (g + Int32.ofInt 1).toInt = (gq (ab_ri h 2) j : Int) + 1 := mc_add hg (by decide) (by omega) (by omega)
        refine mc_lvs (lv' := [(0, .ref 1), (1, .int s), (2, .int (g + Int32.ofInt 1)), (3, .int i)]) (by simp) ?_
        exact k58 (g + Int32.ofInt 1) (by rw [e177]; omega) (Or.inl q176)
set_option maxRecDepth 100000 in
theorem mc_isStoneE {l : Launch} {G : ax_T} {d : Nat} {h : ax_H} {n : Nat} (HS : SGN l G) (hd : 10 ≤ d) (H : mc_HW h n) : mc_M l G d mt_X7_isStone [.ref 1] h n (mc_P h n fun y => y.toInt = 0 ∧ ¬ (1 ≤ PO h ∧ PO h ≤ 20 ∧ (∀ t : Nat, t < (PO h).toNat → ab_ri h 2 (t : Int) = 46 ∨ ab_ri h 2 (t : Int) ∈ ab_let) ∧ gq (ab_ri h 2) (PO h).toNat ≤ 3) ∨ y.toInt = 1 ∧ (1 ≤ PO h ∧ PO h ≤ 20 ∧ (∀ t : Nat, t < (PO h).toNat → ab_ri h 2 (t : Int) = 46 ∨ ab_ri h 2 (t : Int) ∈ ab_let) ∧ gq (ab_ri h 2) (PO h).toNat ≤ 3)) := by
  obtain ⟨d, rfl⟩ : ∃ e, d = e + 1 := ⟨d - 1, by omega⟩
  have hmi : mt_X7_isStone ∈ mt_prog := List.mem_of_getElem? mi_X7_isStone
  refine mc_to hmi rfl ?_
  show mc_R _ _ _ _ _ (0, [(0, .ref 1)], [], h, n, 0, 0)
  refine mc_cx hmi 1 (F' := (1, [(0, .ref 1)], [.ref 1], h, n, 0, 0)) (by with_unfolding_all rfl) ?_
  refine mc_callP hmi (en := (1, .invokestatic 52, 3, (3, 73, 0, 0), [925, 924])) rfl (q := (mt_X7_placesOn, [.ref 1], [])) (by with_unfolding_all rfl) ⟨rfl, rfl⟩ (pc' := 4) rfl (mc_placesOn (by omega) H) (fun y185 e186 => ?_)
  refine mc_cx hmi 3 (F' := (7, [(1, .int y185), (0, .ref 1)], [.int (Int32.ofInt 1), .int y185], h, n, 0, 0)) (by with_unfolding_all rfl) ?_
  have no : ¬ (1 ≤ PO h ∧ PO h ≤ 20) → mc_R l G mt_X7_isStone d (mc_P h n fun y => y.toInt = 0 ∧ ¬ (1 ≤ PO h ∧ PO h ≤ 20 ∧ (∀ t : Nat, t < (PO h).toNat → ab_ri h 2 (t : Int) = 46 ∨ ab_ri h 2 (t : Int) ∈ ab_let) ∧ gq (ab_ri h 2) (PO h).toNat ≤ 3) ∨ y.toInt = 1 ∧ (1 ≤ PO h ∧ PO h ≤ 20 ∧ (∀ t : Nat, t < (PO h).toNat → ab_ri h 2 (t : Int) = 46 ∨ ab_ri h 2 (t : Int) ∈ ab_let) ∧ gq (ab_ri h 2) (PO h).toNat ≤ 3)) (16, [(1, .int y185), (0, .ref 1)], [], h, n, 0, 0) := by
    intro hno
    refine mc_cx hmi 1 (F' := (17, [(1, .int y185), (0, .ref 1)], [.int (Int32.ofInt 0)], h, n, 0, 0)) (by with_unfolding_all rfl) ?_
    exact mc_ret hmi rfl rfl (mc_rb (by decide)) ⟨rfl, rfl, _, rfl, Or.inl ⟨by decide, fun u => hno ⟨u.1, u.2.1⟩⟩⟩
  refine mc_ci hmi (c := .lt) (tg := 16) (pc' := 10) rfl rfl rfl e186 (by decide) (fun (q187 : (PO h) < 1) => ?_) (fun (q187 : 1 ≤ (PO h)) => ?_)
  · exact no (by omega)
  · refine mc_cx hmi 2 (F' := (13, [(1, .int y185), (0, .ref 1)], [.int (Int8.ofInt 20).toInt32, .int y185], h, n, 0, 0)) (by with_unfolding_all rfl) ?_
    refine mc_ci hmi (c := .le) (tg := 18) (pc' := 16) rfl rfl rfl e186 (by decide) (fun (q188 : (PO h) ≤ 20) => ?_) (fun (q188 : 20 < (PO h)) => ?_)
    · refine mc_cx hmi 4 (F' := (22, [(3, .int (Int32.ofInt 0)), (2, .int (Int32.ofInt 0)), (1, .int y185), (0, .ref 1)], [], h, n, 0, 0)) (by with_unfolding_all rfl) ?_
      refine mc_lvs (lv' := [(0, .ref 1), (1, .int y185), (2, .int (Int32.ofInt 0)), (3, .int (Int32.ofInt 0))]) (by simp) ?_
      exact is_loopE HS (by omega) H y185 e186 q187 q188 (PO h).toNat 0 _ _ (by omega) rfl rfl (fun t ht => absurd ht (Nat.not_lt_zero t))
    · exact no (by omega)
set_option maxRecDepth 100000 in
theorem cv_loopE {l : Launch} {G : ax_T} {d : Nat} {Q : Option Value → ax_H → Nat → Prop} {h : ax_H} {n : Nat} (HS : SGN l G) (hd : 9 ≤ d) {N : Nat} (hs : ab_ri h 28 1 = (N : Int)) (hN : N ≤ 20) (hok : (∀ t : Nat, t < N → ab_ri h 2 (t : Int) = 46 ∨ ab_ri h 2 (t : Int) ∈ ab_let)) (kk : ∀ h' : ax_H, mc_HW h' n → (∀ (k' : Nat) (i' : Int), k' ≠ 29 → ab_rd h' k' i' = ab_rd h k' i') → (∀ t : Nat, t < N → (ab_ri h' 29 (t : Int) = 14 ↔ ab_ri h 2 (t : Int) = 46)) → mc_R l G mt_X7_carve d Q (63, [(0, .ref 28), (1, .ref 1)], [], h', n, 0, 0)) : ∀ (c j : Nat) (h' : ax_H) (i : Int32), j + c = N → i.toInt = (j : Int) → mc_HW h' n → (∀ (k' : Nat) (i' : Int), k' ≠ 29 → ab_rd h' k' i' = ab_rd h k' i') → (∀ t : Nat, t < j → (ab_ri h' 29 (t : Int) = 14 ↔ ab_ri h 2 (t : Int) = 46)) → mc_R l G mt_X7_carve d Q (18, [(0, .ref 28), (1, .ref 1), (2, .int i)], [], h', n, 0, 0) := by
  have hmi : mt_X7_carve ∈ mt_prog := List.mem_of_getElem? mi_X7_carve
  intro c
  induction c with
  | zero =>
    intro j h' i hj hi H' hfr hz
    have hpl : ab_ri h' 28 1 = (N : Int) := by rw [ab_ri_of (hfr 28 1 (by decide))]; exact hs
    refine mc_cx hmi 2 (F' := (20, [(0, .ref 28), (1, .ref 1), (2, .int i)], [.ref 28, .int i], h', n, 0, 0)) (by with_unfolding_all rfl) ?_
    refine mc_geti hmi H' (k := 28) (j := 1) (pc' := 23) rfl rfl rfl rfl (fun y189 (e190 : y189.toInt = ab_ri h' 28 1) r191 r192 => ?_)
    rw [e190] at r191 r192
    refine mc_ci hmi (c := .ge) (tg := 63) (pc' := 26) rfl rfl rfl hi e190 (fun (q193 : ab_ri h' 28 1 ≤ (j : Int)) => ?_) (fun (q193 : (j : Int) < ab_ri h' 28 1) => ?_)
    · refine mc_lvs (lv' := [(0, .ref 28), (1, .ref 1)]) (by simp) ?_
      have e : j = N := by omega
      rw [e] at hz
      exact kk h' H' hfr hz
    · exact absurd q193 (by omega)
  | succ c ih =>
    intro j h' i hj hi H' hfr hz
    have hpl : ab_ri h' 28 1 = (N : Int) := by rw [ab_ri_of (hfr 28 1 (by decide))]; exact hs
    refine mc_cx hmi 2 (F' := (20, [(0, .ref 28), (1, .ref 1), (2, .int i)], [.ref 28, .int i], h', n, 0, 0)) (by with_unfolding_all rfl) ?_
    refine mc_geti hmi H' (k := 28) (j := 1) (pc' := 23) rfl rfl rfl rfl (fun y194 (e195 : y194.toInt = ab_ri h' 28 1) r196 r197 => ?_)
    rw [e195] at r196 r197
    refine mc_ci hmi (c := .ge) (tg := 63) (pc' := 26) rfl rfl rfl hi e195 (fun (q198 : ab_ri h' 28 1 ≤ (j : Int)) => ?_) (fun (q198 : (j : Int) < ab_ri h' 28 1) => ?_)
    · exact absurd q198 (by omega)
    · have hpg : ab_ri h' 2 (j : Int) = ab_ri h 2 (j : Int) := ab_ri_of (hfr 2 _ (by decide))
      refine mc_cx hmi 1 (F' := (27, [(0, .ref 28), (1, .ref 1), (2, .int i)], [.ref 28], h', n, 0, 0)) (by with_unfolding_all rfl) ?_
      refine mc_getr hmi H' (k := 28) (c := 29) (pc' := 30) rfl rfl rfl rfl rfl ?_
      refine mc_cx hmi 2 (F' := (32, [(0, .ref 28), (1, .ref 1), (2, .int i)], [.ref 1, .int i, .ref 29], h', n, 0, 0)) (by with_unfolding_all rfl) ?_
      refine mc_getr hmi H' (k := 1) (c := 2) (pc' := 35) rfl rfl rfl rfl rfl ?_
      refine mc_cx hmi 1 (F' := (36, [(0, .ref 28), (1, .ref 1), (2, .int i)], [.int i, .ref 2, .int i, .ref 29], h', n, 0, 0)) (by with_unfolding_all rfl) ?_
      refine mc_iald hmi H' (k := 2) (i := (j : Int)) (pc' := 37) rfl rfl rfl hi (by omega) (by omega) rfl (fun y199 e200 r201 r202 => ?_)
      rw [e200] at r201 r202
      refine mc_cx hmi 1 (F' := (39, [(0, .ref 28), (1, .ref 1), (2, .int i)], [.int (Int8.ofInt 46).toInt32, .int y199, .int i, .ref 29], h', n, 0, 0)) (by with_unfolding_all rfl) ?_
      have k56 : ∀ u : Int32, 0 ≤ u.toInt → u.toInt ≤ 14 → (u.toInt = 14 ↔ ab_ri h 2 (j : Int) = 46) → mc_R l G mt_X7_carve d Q (56, [(0, .ref 28), (1, .ref 1), (2, .int i)], [.int u, .int i, .ref 29], h', n, 0, 0) := by
        intro u hu0 hu1 hu
        have b203 := Int32.le_toInt (u)
        have b204 := Int32.toInt_lt (u)
        refine mc_iast hmi H' (k := 29) (i := (j : Int)) (pc' := 57) rfl rfl rfl hi (by omega) (by omega) (by rw [show (u).toInt = u.toInt from rfl]; omega) (by rw [show (u).toInt = u.toInt from rfl]; omega) rfl (fun h205 H206 w207 => ?_)
        refine mc_cx hmi 2 (F' := (18, [(2, .int (i + Int32.ofInt 1)), (0, .ref 28), (1, .ref 1)], [], h205, n, 0, 0)) (by with_unfolding_all rfl) ?_
        have e208 : (i + Int32.ofInt 1).toInt = (j : Int) + 1 := mc_add hi (by decide) (by omega) (by omega)
        refine mc_lvs (lv' := [(0, .ref 28), (1, .ref 1), (2, .int (i + Int32.ofInt 1))]) (by simp) ?_
        refine ih (j + 1) h205 (i + Int32.ofInt 1) (by omega) (by rw [e208]; omega) H206 (fun k' i' hk => by rw [w207, if_neg (fun q => hk q.1)]; exact hfr k' i' hk) (fun t ht => ?_)
        rw [mc_ri w207]
        by_cases e : t = j
        · rw [if_pos ⟨rfl, by rw [e]⟩, e]; exact hu
        · rw [if_neg (fun q => by have := q.2; omega)]; exact hz t (by omega)
      refine mc_ci hmi (c := .ne) (tg := 47) (pc' := 42) rfl rfl rfl e200 (by decide) (fun (q209 : ab_ri h' 2 ((j : Int)) ≠ 46) => ?_) (fun (q209 : ab_ri h' 2 ((j : Int)) = 46) => ?_)
      · refine mc_cx hmi 1 (F' := (48, [(0, .ref 28), (1, .ref 1), (2, .int i)], [.ref 1, .int i, .ref 29], h', n, 0, 0)) (by with_unfolding_all rfl) ?_
        refine mc_getr hmi H' (k := 1) (c := 2) (pc' := 51) rfl rfl rfl rfl rfl ?_
        refine mc_cx hmi 1 (F' := (52, [(0, .ref 28), (1, .ref 1), (2, .int i)], [.int i, .ref 2, .int i, .ref 29], h', n, 0, 0)) (by with_unfolding_all rfl) ?_
        refine mc_iald hmi H' (k := 2) (i := (j : Int)) (pc' := 53) rfl rfl rfl hi (by omega) (by omega) rfl (fun y210 e211 r212 r213 => ?_)
        rw [e211] at r212 r213
        refine mc_callP hmi (en := (53, .invokestatic 56, 3, (4, 150, 0, 0), [497, 927])) rfl (q := (mt_X10_signOf, [.int y210], [.int i, .ref 29])) (by with_unfolding_all rfl) ⟨rfl, rfl⟩ (pc' := 56) rfl (HS _ h' n y210 hd (Or.inr trivial) H' (by omega) (by omega)) (fun y214 e215 => ?_)
        rw [e211, hpg] at e215
        have hne : ab_ri h 2 (j : Int) ≠ 46 := by rw [← hpg]; exact q209
        have hy : 0 ≤ y214.toInt ∧ y214.toInt ≤ 13 := e215.elim (fun q => q.2) (fun q => ((hok j (by omega)).elim (fun z => absurd z hne) (fun z => absurd z q.1)))
        exact k56 y214 hy.1 (by omega) ⟨fun q => by omega, fun q => absurd q hne⟩
      · refine mc_cx hmi 2 (F' := (56, [(0, .ref 28), (1, .ref 1), (2, .int i)], [.int (Int8.ofInt 14).toInt32, .int i, .ref 29], h', n, 0, 0)) (by with_unfolding_all rfl) ?_
        exact k56 _ (by decide) (by decide) ⟨fun _ => by rw [← hpg]; exact q209, fun _ => by decide⟩
set_option maxRecDepth 100000 in
theorem mc_carveE {l : Launch} {G : ax_T} {d : Nat} {h : ax_H} {n : Nat} (HS : SGN l G) (hd : 10 ≤ d) (H : mc_HW h n) (hg : (1 ≤ PO h ∧ PO h ≤ 20 ∧ (∀ t : Nat, t < (PO h).toNat → ab_ri h 2 (t : Int) = 46 ∨ ab_ri h 2 (t : Int) ∈ ab_let) ∧ gq (ab_ri h 2) (PO h).toNat ≤ 3)) : mc_M l G d mt_X7_carve [.ref 28, .ref 1] h n (fun r' h' n' => n' = n ∧ r' = none ∧ mc_HW h' n ∧ ab_ri h' 28 1 = PO h ∧ (∀ (k' : Nat) (i' : Int), k' ≠ 29 → (k' = 28 → i' ≠ 1) → (k' = 28 → i' ≠ 2) → (k' = 28 → i' ≠ 8) → ab_rd h' k' i' = ab_rd h k' i') ∧ ab_gc h' 29 (ab_ri h' 28 1).toNat ≤ 3 ∧ ab_ri h' 28 1 ≤ ab_ri h' 28 2 ∧ ab_ri h' 28 2 ≤ ab_ri h' 28 1 + 1) := by
  obtain ⟨d, rfl⟩ : ∃ e, d = e + 1 := ⟨d - 1, by omega⟩
  have hmi : mt_X7_carve ∈ mt_prog := List.mem_of_getElem? mi_X7_carve
  obtain ⟨p1, p20, hok, hgq⟩ := hg
  have hpo : (PO h = ab_ri h 1 1 ∨ PO h = ab_ri h 1 1 - 1) := by unfold PO; split; exact Or.inr rfl; exact Or.inl rfl
  refine mc_to hmi rfl ?_
  show mc_R _ _ _ _ _ (0, [(0, .ref 28), (1, .ref 1)], [], h, n, 0, 0)
  refine mc_cx hmi 2 (F' := (2, [(0, .ref 28), (1, .ref 1)], [.ref 1, .ref 28], h, n, 0, 0)) (by with_unfolding_all rfl) ?_
  refine mc_callP hmi (en := (2, .invokestatic 52, 3, (3, 73, 0, 0), [925, 924])) rfl (q := (mt_X7_placesOn, [.ref 1], [.ref 28])) (by with_unfolding_all rfl) ⟨rfl, rfl⟩ (pc' := 5) rfl (mc_placesOn (by omega) H) (fun y216 e217 => ?_)
  refine mc_puti hmi H (k := 28) (j := 1) (pc' := 8) rfl rfl rfl rfl (by rw [e217]; omega) (by rw [e217]; omega) rfl (fun h218 H219 w220 => ?_)
  have g1 := mc_ri w220
  have c1 : ab_ri h218 1 1 = ab_ri h 1 1 := by rw [g1, if_neg (fun q => absurd q.1 (by decide))]
  refine mc_cx hmi 2 (F' := (10, [(0, .ref 28), (1, .ref 1)], [.ref 1, .ref 28], h218, n, 0, 0)) (by with_unfolding_all rfl) ?_
  refine mc_geti hmi H219 (k := 1) (j := 1) (pc' := 13) rfl rfl rfl rfl (fun y221 (e222 : y221.toInt = ab_ri h218 1 1) r223 r224 => ?_)
  rw [e222] at r223 r224
  refine mc_puti hmi H219 (k := 28) (j := 2) (pc' := 16) rfl rfl rfl rfl (by rw [e222]; omega) (by rw [e222]; omega) rfl (fun h225 H226 w227 => ?_)
  have g2 := mc_ri w227
  have c2 : ab_ri h225 28 1 = ((PO h).toNat : Int) := by rw [g2, if_neg (fun q => absurd q.2 (by decide)), g1, if_pos ⟨rfl, rfl⟩]; omega
  have c3 : ab_ri h225 28 2 = ab_ri h 1 1 := by rw [g2, if_pos ⟨rfl, rfl⟩]; omega
  have c4 : ab_ri h225 2 = ab_ri h 2 := funext fun i => by rw [g2, if_neg (fun q => absurd q.1 (by decide)), g1, if_neg (fun q => absurd q.1 (by decide))]
  refine mc_cx hmi 2 (F' := (18, [(2, .int (Int32.ofInt 0)), (0, .ref 28), (1, .ref 1)], [], h225, n, 0, 0)) (by with_unfolding_all rfl) ?_
  refine mc_lvs (lv' := [(0, .ref 28), (1, .ref 1), (2, .int (Int32.ofInt 0))]) (by simp) ?_
  refine cv_loopE (h := h225) HS (by omega) (N := (PO h).toNat) c2 (by omega) (by rw [c4]; exact hok) (fun h3 H3 f3 g3 => ?_) (PO h).toNat 0 h225 _ (Nat.zero_add _) rfl H226 (fun _ _ _ => rfl) (fun t ht => absurd ht (Nat.not_lt_zero t))
  rw [c4] at g3
  have d1 : ab_ri h3 28 1 = ((PO h).toNat : Int) := by rw [ab_ri_of (f3 28 1 (by decide))]; exact c2
  have d2 : ab_ri h3 28 2 = ab_ri h 1 1 := by rw [ab_ri_of (f3 28 2 (by decide))]; exact c3
  have k85 : ∀ h4 : ax_H, mc_HW h4 n → (∀ (k' : Nat) (i' : Int), (k' = 29 → i' ≠ (PO h)) → ab_rd h4 k' i' = ab_rd h3 k' i') → mc_R l G mt_X7_carve d (fun r' h' n' => n' = n ∧ r' = none ∧ mc_HW h' n ∧ ab_ri h' 28 1 = PO h ∧ (∀ (k' : Nat) (i' : Int), k' ≠ 29 → (k' = 28 → i' ≠ 1) → (k' = 28 → i' ≠ 2) → (k' = 28 → i' ≠ 8) → ab_rd h' k' i' = ab_rd h k' i') ∧ ab_gc h' 29 (ab_ri h' 28 1).toNat ≤ 3 ∧ ab_ri h' 28 1 ≤ ab_ri h' 28 2 ∧ ab_ri h' 28 2 ≤ ab_ri h' 28 1 + 1) (85, [(0, .ref 28), (1, .ref 1)], [], h4, n, 0, 0) := by
    intro h4 H4 f4
    refine mc_cx hmi 2 (F' := (87, [(0, .ref 28), (1, .ref 1)], [.int (Int32.ofInt (-1)), .ref 28], h4, n, 0, 0)) (by with_unfolding_all rfl) ?_
    refine mc_puti hmi H4 (k := 28) (j := 8) (pc' := 90) rfl rfl rfl rfl (by rw [show ((Int32.ofInt (-1))).toInt = (-1) from by decide]; omega) (by rw [show ((Int32.ofInt (-1))).toInt = (-1) from by decide]; omega) rfl (fun h228 H229 w230 => ?_)
    have x1 : ab_ri h228 28 1 = ((PO h).toNat : Int) := by rw [mc_ri w230, if_neg (fun q => absurd q.2 (by decide)), ab_ri_of (f4 28 1 (fun q => absurd q (by decide)))]; exact d1
    have x2 : ab_ri h228 28 2 = ab_ri h 1 1 := by rw [mc_ri w230, if_neg (fun q => absurd q.2 (by decide)), ab_ri_of (f4 28 2 (fun q => absurd q (by decide)))]; exact d2
    refine mc_ret hmi rfl rfl rfl ⟨rfl, rfl, H229, by omega, fun k' i' p1 p2 p3 p4 => ?_, ?_, by omega, by omega⟩
    · rw [w230, if_neg (fun q => p4 q.1 q.2), f4 k' i' (fun q => absurd q p1), f3 k' i' p1, w227, if_neg (fun q => p3 q.1 q.2), w220, if_neg (fun q => p2 q.1 q.2)]
    · rw [x1, gc_gq (f := ab_ri h 2) ((PO h).toNat : Int).toNat (fun t ht => by rw [mc_ri w230, if_neg (fun q => absurd q.1 (by decide)), ab_ri_of (f4 29 (t : Int) (fun _ => by omega))]; exact g3 t (by omega))]
      exact hgq
  refine mc_cx hmi 1 (F' := (64, [(0, .ref 28), (1, .ref 1)], [.ref 28], h3, n, 0, 0)) (by with_unfolding_all rfl) ?_
  refine mc_geti hmi H3 (k := 28) (j := 2) (pc' := 67) rfl rfl rfl rfl (fun y231 (e232 : y231.toInt = ab_ri h3 28 2) r233 r234 => ?_)
  rw [e232] at r233 r234
  refine mc_cx hmi 1 (F' := (68, [(0, .ref 28), (1, .ref 1)], [.ref 28, .int y231], h3, n, 0, 0)) (by with_unfolding_all rfl) ?_
  refine mc_geti hmi H3 (k := 28) (j := 1) (pc' := 71) rfl rfl rfl rfl (fun y235 (e236 : y235.toInt = ab_ri h3 28 1) r237 r238 => ?_)
  rw [e236] at r237 r238
  refine mc_ci hmi (c := .le) (tg := 85) (pc' := 74) rfl rfl rfl e232 e236 (fun (q239 : ab_ri h3 28 2 ≤ ab_ri h3 28 1) => ?_) (fun (q239 : ab_ri h3 28 1 < ab_ri h3 28 2) => ?_)
  · exact k85 h3 H3 (fun _ _ _ => rfl)
  · refine mc_cx hmi 1 (F' := (75, [(0, .ref 28), (1, .ref 1)], [.ref 28], h3, n, 0, 0)) (by with_unfolding_all rfl) ?_
    refine mc_getr hmi H3 (k := 28) (c := 29) (pc' := 78) rfl rfl rfl rfl rfl ?_
    refine mc_cx hmi 1 (F' := (79, [(0, .ref 28), (1, .ref 1)], [.ref 28, .ref 29], h3, n, 0, 0)) (by with_unfolding_all rfl) ?_
    refine mc_geti hmi H3 (k := 28) (j := 1) (pc' := 82) rfl rfl rfl rfl (fun y240 (e241 : y240.toInt = ab_ri h3 28 1) r242 r243 => ?_)
    rw [e241] at r242 r243
    refine mc_cx hmi 1 (F' := (84, [(0, .ref 28), (1, .ref 1)], [.int (Int8.ofInt 14).toInt32, .int y240, .ref 29], h3, n, 0, 0)) (by with_unfolding_all rfl) ?_
    refine mc_iast hmi H3 (k := 29) (i := ab_ri h3 28 1) (pc' := 85) rfl rfl rfl e241 (by omega) (by omega) (by rw [show ((Int8.ofInt 14).toInt32).toInt = 14 from by decide]; omega) (by rw [show ((Int8.ofInt 14).toInt32).toInt = 14 from by decide]; omega) rfl (fun h244 H245 w246 => ?_)
    refine mc_lvs (lv' := [(0, .ref 28), (1, .ref 1)]) (by simp) ?_
    exact k85 h244 H245 (fun k' i' p => by rw [w246, if_neg (fun q => p q.1 (by rw [q.2]; omega))])
set_option maxRecDepth 100000 in
theorem mc_stone10E {l : Launch} {G : ax_T} {d : Nat} {h : ax_H} {n : Nat} (HS : SGN l G) (hd : 11 ≤ d) (H : mc_HW h n) : mc_M l G d mt_X10_stone [.ref 0] h n (fun r' h' n' => n' = n ∧ mc_HW h' n ∧ (∃ y : Int32, r' = some (.int y) ∧ (y = Int32.ofInt (-103) ∧ ¬ pg_st (ab_ri h 2) (ab_ri h 1 1) ∧ h' = h ∨ pg_st (ab_ri h 2) (ab_ri h 1 1) ∧ y.toInt = pg_po (ab_ri h 2) (ab_ri h 1 1) ∧ ab_rd h' 1 1 = some (.int (Int32.ofInt 0)))) ∧ (∀ (k' : Nat) (i' : Int), k' ≠ 29 → (k' = 28 → i' ≠ 1) → (k' = 28 → i' ≠ 2) → (k' = 28 → i' ≠ 8) → (k' = 1 → i' ≠ 1) → ab_rd h' k' i' = ab_rd h k' i') ∧ ((ab_gc h 29 (ab_ri h 28 1).toNat ≤ 3 ∧ ab_ri h 28 1 ≤ ab_ri h 28 2 ∧ ab_ri h 28 2 ≤ ab_ri h 28 1 + 1) → (ab_gc h' 29 (ab_ri h' 28 1).toNat ≤ 3 ∧ ab_ri h' 28 1 ≤ ab_ri h' 28 2 ∧ ab_ri h' 28 2 ≤ ab_ri h' 28 1 + 1))) := by
  obtain ⟨d, rfl⟩ : ∃ e, d = e + 1 := ⟨d - 1, by omega⟩
  have hmi : mt_X10_stone ∈ mt_prog := List.mem_of_getElem? mi_X10_stone
  refine mc_to hmi rfl ?_
  show mc_R _ _ _ _ _ (0, [(0, .ref 0)], [], h, n, 0, 0)
  refine mc_cx hmi 1 (F' := (1, [(0, .ref 0)], [.ref 0], h, n, 0, 0)) (by with_unfolding_all rfl) ?_
  refine mc_getr hmi H (k := 0) (c := 1) (pc' := 4) rfl rfl rfl rfl rfl ?_
  refine mc_callP hmi (en := (4, .invokestatic 227, 3, (4, 74, 0, 0), [922, 921])) rfl (q := (mt_X7_isStone, [.ref 1], [])) (by with_unfolding_all rfl) ⟨rfl, rfl⟩ (pc' := 7) rfl (mc_isStoneE HS (by omega) H) (fun y247 e248 => ?_)
  refine mc_cz hmi (c := .ne) (tg := 13) (pc' := 10) rfl rfl rfl rfl (fun (q249 : y247.toInt ≠ 0) => ?_) (fun (q249 : y247.toInt = 0) => ?_)
  · have hg := (e248.elim (fun q => absurd q.1 q249) (fun q => q.2))
    refine mc_cx hmi 1 (F' := (14, [(0, .ref 0)], [.ref 0], h, n, 0, 0)) (by with_unfolding_all rfl) ?_
    refine mc_getr hmi H (k := 0) (c := 28) (pc' := 17) rfl rfl rfl rfl rfl ?_
    refine mc_cx hmi 1 (F' := (18, [(0, .ref 0)], [.ref 0, .ref 28], h, n, 0, 0)) (by with_unfolding_all rfl) ?_
    refine mc_getr hmi H (k := 0) (c := 1) (pc' := 21) rfl rfl rfl rfl rfl ?_
    refine mc_call hmi (en := (21, .invokevirtual 230, 3, (4, 75, 7, 0), [930, 48, 928])) rfl (q := (mt_X7_carve, [.ref 28, .ref 1], [])) (mc_inv H (as := [.ref 1]) (rest := []) rfl (by with_unfolding_all rfl) rfl rfl rfl) ⟨rfl, rfl⟩ (pc' := 24) rfl (mc_mono (mc_carveE HS (by omega) H hg) ?_)
    intro r2 h2 n2 P2
    obtain ⟨e1, e2, H2, g0, f2, g1, g2, g3⟩ := P2
    rw [e1, e2]
    show mc_R _ _ _ _ _ (24, [(0, .ref 0)], [], h2, n, 0, 0)
    refine mc_cx hmi 1 (F' := (25, [(0, .ref 0)], [.ref 0], h2, n, 0, 0)) (by with_unfolding_all rfl) ?_
    refine mc_getr hmi H2 (k := 0) (c := 1) (pc' := 28) rfl rfl rfl rfl rfl ?_
    refine mc_cx hmi 1 (F' := (29, [(0, .ref 0)], [.int (Int32.ofInt 0), .ref 1], h2, n, 0, 0)) (by with_unfolding_all rfl) ?_
    refine mc_puti hmi H2 (k := 1) (j := 1) (pc' := 32) rfl rfl rfl rfl (by rw [show ((Int32.ofInt 0)).toInt = 0 from by decide]; omega) (by rw [show ((Int32.ofInt 0)).toInt = 0 from by decide]; omega) rfl (fun h250 H251 w252 => ?_)
    refine mc_cx hmi 1 (F' := (33, [(0, .ref 0)], [.ref 0], h250, n, 0, 0)) (by with_unfolding_all rfl) ?_
    refine mc_getr hmi H251 (k := 0) (c := 28) (pc' := 36) rfl rfl rfl rfl rfl ?_
    refine mc_geti hmi H251 (k := 28) (j := 1) (pc' := 39) rfl rfl rfl rfl (fun y253 (e254 : y253.toInt = ab_ri h250 28 1) r255 r256 => ?_)
    rw [e254] at r255 r256
    refine mc_ret hmi rfl rfl rfl ⟨rfl, H251, ⟨_, rfl, Or.inr ⟨hg, ?_, ?_⟩⟩, fun k' i' p1 p2 p3 p4 p5 => ?_, fun _ => ?_⟩
    · rw [e254, mc_ri w252, if_neg (fun q => absurd q.1 (by decide))]; exact g0
    · rw [w252, if_pos ⟨rfl, rfl⟩]
    · rw [w252, if_neg (fun q => p5 q.1 q.2)]; exact f2 k' i' p1 p2 p3 p4
    · have gz := mc_ri w252
      rw [gz, if_neg (fun q => absurd q.1 (by decide)), gz, if_neg (fun q => absurd q.1 (by decide)), show ab_gc h250 29 (ab_ri h2 28 1).toNat = ab_gc h2 29 (ab_ri h2 28 1).toNat from ab_gc_of _ (fun i _ => by rw [w252, if_neg (fun q => absurd q.1 (by decide))])]
      exact ⟨g1, g2, g3⟩
  · have hno := (e248.elim (fun q => q.2) (fun q => by omega))
    refine mc_cx hmi 1 (F' := (12, [(0, .ref 0)], [.int (Int8.ofInt (-103)).toInt32], h, n, 0, 0)) (by with_unfolding_all rfl) ?_
    exact mc_ret hmi rfl rfl rfl ⟨rfl, H, ⟨_, rfl, Or.inl ⟨by decide, hno, rfl⟩⟩, fun _ _ _ _ _ _ _ => rfl, id⟩
