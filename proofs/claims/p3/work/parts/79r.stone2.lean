/-! ===== by hand: the stone in the class, given signOf (ways printed by wip/hand/h_stone2.py) ===== -/
-- signOf of the class
def SGN (l : Launch) (G : ax_T) : Prop := ∀ (d : Nat) (h : ax_H) (n : Nat) (x : Int32), 9 ≤ d → ab_J h ∨ True → mc_HW h n → 0 ≤ x.toInt → x.toInt ≤ 255 → mc_M l G d mt_X10_signOf [.int x] h n (mc_P h n fun y => (x.toInt ∈ ab_let ∧ 0 ≤ y.toInt ∧ y.toInt ≤ 13) ∨ (x.toInt ∉ ab_let ∧ y.toInt = -1))
def PO (h : ax_H) : Int := if 0 < ab_ri h 1 1 ∧ ab_ri h 2 (ab_ri h 1 1 - 1) = 42 then ab_ri h 1 1 - 1 else ab_ri h 1 1
set_option maxRecDepth 100000 in
theorem mc_placesOn {l : Launch} {G : ax_T} {d : Nat} {h : ax_H} {n : Nat} (hd : 1 ≤ d) (H : mc_HW h n) : mc_M l G d mt_X7_placesOn [.ref 1] h n (mc_P h n fun y => y.toInt = PO h) := by
  obtain ⟨d, rfl⟩ : ∃ e, d = e + 1 := ⟨d - 1, by omega⟩
  have hmi : mt_X7_placesOn ∈ mt_prog := List.mem_of_getElem? mi_X7_placesOn
  refine mc_to hmi rfl ?_
  show mc_R _ _ _ _ _ (0, [(0, .ref 1)], [], h, n, 0, 0)
  have hlen := mc_frng H (k := 1) (j := 1) (ci := 4) rfl rfl
  have k28 : ∀ u : Int32, (u.toInt ≠ 0 ↔ 0 < ab_ri h 1 1 ∧ ab_ri h 2 (ab_ri h 1 1 - 1) = 42) → mc_R l G mt_X7_placesOn d (mc_P h n fun y => y.toInt = PO h) (28, [(0, .ref 1)], [.int u], h, n, 0, 0) := by
    intro u hu
    refine mc_cx hmi 2 (F' := (30, [(1, .int u), (0, .ref 1)], [.int u], h, n, 0, 0)) (by with_unfolding_all rfl) ?_
    refine mc_cz hmi (c := .eq) (tg := 42) (pc' := 33) rfl rfl rfl rfl (fun (q101 : u.toInt = 0) => ?_) (fun (q101 : u.toInt ≠ 0) => ?_)
    · refine mc_cx hmi 1 (F' := (43, [(1, .int u), (0, .ref 1)], [.ref 1], h, n, 0, 0)) (by with_unfolding_all rfl) ?_
      refine mc_geti hmi H (k := 1) (j := 1) (pc' := 46) rfl rfl rfl rfl (fun y102 (e103 : y102.toInt = ab_ri h 1 1) r104 r105 => ?_)
      rw [e103] at r104 r105
      refine mc_ret hmi rfl rfl rfl ⟨rfl, rfl, _, rfl, ?_⟩
      unfold PO; rw [if_neg (fun z => hu.mpr z q101)]; exact e103
    · have hb := hu.mp q101
      refine mc_cx hmi 1 (F' := (34, [(1, .int u), (0, .ref 1)], [.ref 1], h, n, 0, 0)) (by with_unfolding_all rfl) ?_
      refine mc_geti hmi H (k := 1) (j := 1) (pc' := 37) rfl rfl rfl rfl (fun y106 (e107 : y106.toInt = ab_ri h 1 1) r108 r109 => ?_)
      rw [e107] at r108 r109
      refine mc_cx hmi 3 (F' := (46, [(1, .int u), (0, .ref 1)], [.int (y106 - (Int32.ofInt 1))], h, n, 0, 0)) (by with_unfolding_all rfl) ?_
      have e110 : (y106 - (Int32.ofInt 1)).toInt = ab_ri h 1 1 - 1 := mc_sub e107 (by decide) (by omega) (by omega)
      refine mc_ret hmi rfl rfl rfl ⟨rfl, rfl, _, rfl, ?_⟩
      unfold PO; rw [if_pos hb]; exact e110
  refine mc_cx hmi 1 (F' := (1, [(0, .ref 1)], [.ref 1], h, n, 0, 0)) (by with_unfolding_all rfl) ?_
  refine mc_geti hmi H (k := 1) (j := 1) (pc' := 4) rfl rfl rfl rfl (fun y111 (e112 : y111.toInt = ab_ri h 1 1) r113 r114 => ?_)
  rw [e112] at r113 r114
  refine mc_cz hmi (c := .le) (tg := 27) (pc' := 7) rfl rfl rfl e112 (fun (q115 : ab_ri h 1 1 ≤ 0) => ?_) (fun (q115 : 0 < ab_ri h 1 1) => ?_)
  · refine mc_cx hmi 1 (F' := (28, [(0, .ref 1)], [.int (Int32.ofInt 0)], h, n, 0, 0)) (by with_unfolding_all rfl) ?_
    exact k28 _ ⟨fun q => absurd (by decide) q, fun q => by omega⟩
  · refine mc_cx hmi 1 (F' := (8, [(0, .ref 1)], [.ref 1], h, n, 0, 0)) (by with_unfolding_all rfl) ?_
    refine mc_getr hmi H (k := 1) (c := 2) (pc' := 11) rfl rfl rfl rfl rfl ?_
    refine mc_cx hmi 1 (F' := (12, [(0, .ref 1)], [.ref 1, .ref 2], h, n, 0, 0)) (by with_unfolding_all rfl) ?_
    refine mc_geti hmi H (k := 1) (j := 1) (pc' := 15) rfl rfl rfl rfl (fun y116 (e117 : y116.toInt = ab_ri h 1 1) r118 r119 => ?_)
    rw [e117] at r118 r119
    refine mc_cx hmi 2 (F' := (17, [(0, .ref 1)], [.int (y116 - (Int32.ofInt 1)), .ref 2], h, n, 0, 0)) (by with_unfolding_all rfl) ?_
    have e120 : (y116 - (Int32.ofInt 1)).toInt = ab_ri h 1 1 - 1 := mc_sub e117 (by decide) (by omega) (by omega)
    refine mc_iald hmi H (k := 2) (i := (ab_ri h 1 1 - 1)) (pc' := 18) rfl rfl rfl e120 (by omega) (by omega) rfl (fun y121 e122 r123 r124 => ?_)
    rw [e122] at r123 r124
    refine mc_cx hmi 1 (F' := (20, [(0, .ref 1)], [.int (Int8.ofInt 42).toInt32, .int y121], h, n, 0, 0)) (by with_unfolding_all rfl) ?_
    refine mc_ci hmi (c := .ne) (tg := 27) (pc' := 23) rfl rfl rfl e122 (by decide) (fun (q125 : ab_ri h 2 ((ab_ri h 1 1 - 1)) ≠ 42) => ?_) (fun (q125 : ab_ri h 2 ((ab_ri h 1 1 - 1)) = 42) => ?_)
    · refine mc_cx hmi 1 (F' := (28, [(0, .ref 1)], [.int (Int32.ofInt 0)], h, n, 0, 0)) (by with_unfolding_all rfl) ?_
      exact k28 _ ⟨fun q => absurd (by decide) q, fun q => absurd q.2 q125⟩
    · refine mc_cx hmi 2 (F' := (28, [(0, .ref 1)], [.int (Int32.ofInt 1)], h, n, 0, 0)) (by with_unfolding_all rfl) ?_
      exact k28 _ ⟨fun _ => ⟨by omega, q125⟩, fun _ => by decide⟩
set_option maxRecDepth 100000 in
theorem is_loop {l : Launch} {G : ax_T} {d : Nat} {h : ax_H} {n : Nat} (HS : SGN l G) (hd : 9 ≤ d) (H : mc_HW h n) (s : Int32) (hs : s.toInt = PO h) (h1 : 1 ≤ PO h) (h20 : PO h ≤ 20) : ∀ (c j : Nat) (g i : Int32), (j : Int) + (c : Int) = PO h → i.toInt = (j : Int) → g.toInt = (gq (ab_ri h 2) j : Int) → (∀ t : Nat, t < j → ab_ri h 2 (t : Int) = 46 ∨ ab_ri h 2 (t : Int) ∈ ab_let) → mc_R l G mt_X7_isStone d (mc_P h n fun y => y.toInt = 0 ∨ y.toInt = 1 ∧ (1 ≤ PO h ∧ PO h ≤ 20 ∧ (∀ t : Nat, t < (PO h).toNat → ab_ri h 2 (t : Int) = 46 ∨ ab_ri h 2 (t : Int) ∈ ab_let) ∧ gq (ab_ri h 2) (PO h).toNat ≤ 3)) (22, [(0, .ref 1), (1, .int s), (2, .int g), (3, .int i)], [], h, n, 0, 0) := by
  have hmi : mt_X7_isStone ∈ mt_prog := List.mem_of_getElem? mi_X7_isStone
  intro c
  induction c with
  | zero =>
    intro j g i hj hi hg hok
    have hgl := gq_le (ab_ri h 2) j
    refine mc_cx hmi 2 (F' := (24, [(0, .ref 1), (1, .int s), (2, .int g), (3, .int i)], [.int s, .int i], h, n, 0, 0)) (by with_unfolding_all rfl) ?_
    refine mc_ci hmi (c := .ge) (tg := 64) (pc' := 27) rfl rfl rfl hi hs (fun (q126 : (PO h) ≤ (j : Int)) => ?_) (fun (q126 : (j : Int) < (PO h)) => ?_)
    · have e : j = (PO h).toNat := by omega
      rw [e] at hg hok
      refine mc_cx hmi 2 (F' := (66, [(0, .ref 1), (1, .int s), (2, .int g), (3, .int i)], [.int (Int32.ofInt 3), .int g], h, n, 0, 0)) (by with_unfolding_all rfl) ?_
      refine mc_ci hmi (c := .gt) (tg := 73) (pc' := 69) rfl rfl rfl hg (by decide) (fun (q127 : 3 < (gq (ab_ri h 2) (PO h).toNat : Int)) => ?_) (fun (q127 : (gq (ab_ri h 2) (PO h).toNat : Int) ≤ 3) => ?_)
      · refine mc_cx hmi 1 (F' := (74, [(0, .ref 1), (1, .int s), (2, .int g), (3, .int i)], [.int (Int32.ofInt 0)], h, n, 0, 0)) (by with_unfolding_all rfl) ?_
        exact mc_ret hmi rfl rfl (mc_rb (by decide)) ⟨rfl, rfl, _, rfl, Or.inl (by decide)⟩
      · refine mc_cx hmi 2 (F' := (74, [(0, .ref 1), (1, .int s), (2, .int g), (3, .int i)], [.int (Int32.ofInt 1)], h, n, 0, 0)) (by with_unfolding_all rfl) ?_
        exact mc_ret hmi rfl rfl (mc_rb (by decide)) ⟨rfl, rfl, _, rfl, Or.inr ⟨by decide, h1, h20, hok, by omega⟩⟩
    · exact absurd q126 (by omega)
  | succ c ih =>
    intro j g i hj hi hg hok
    have hgl := gq_le (ab_ri h 2) j
    refine mc_cx hmi 2 (F' := (24, [(0, .ref 1), (1, .int s), (2, .int g), (3, .int i)], [.int s, .int i], h, n, 0, 0)) (by with_unfolding_all rfl) ?_
    refine mc_ci hmi (c := .ge) (tg := 64) (pc' := 27) rfl rfl rfl hi hs (fun (q128 : (PO h) ≤ (j : Int)) => ?_) (fun (q128 : (j : Int) < (PO h)) => ?_)
    · exact absurd q128 (by omega)
    · have k58 : ∀ v : Int32, v.toInt = (gq (ab_ri h 2) (j + 1) : Int) → (ab_ri h 2 (j : Int) = 46 ∨ ab_ri h 2 (j : Int) ∈ ab_let) → mc_R l G mt_X7_isStone d (mc_P h n fun y => y.toInt = 0 ∨ y.toInt = 1 ∧ (1 ≤ PO h ∧ PO h ≤ 20 ∧ (∀ t : Nat, t < (PO h).toNat → ab_ri h 2 (t : Int) = 46 ∨ ab_ri h 2 (t : Int) ∈ ab_let) ∧ gq (ab_ri h 2) (PO h).toNat ≤ 3)) (58, [(0, .ref 1), (1, .int s), (2, .int v), (3, .int i)], [], h, n, 0, 0) := by
        intro v hv hl
        refine mc_cx hmi 2 (F' := (22, [(3, .int (i + Int32.ofInt 1)), (0, .ref 1), (1, .int s), (2, .int v)], [], h, n, 0, 0)) (by with_unfolding_all rfl) ?_
        have e129 : (i + Int32.ofInt 1).toInt = (j : Int) + 1 := mc_add hi (by decide) (by omega) (by omega)
        refine mc_lvs (lv' := [(0, .ref 1), (1, .int s), (2, .int v), (3, .int (i + Int32.ofInt 1))]) (by simp) ?_
        refine ih (j + 1) v (i + Int32.ofInt 1) (by omega) (by rw [e129]; omega) hv (fun t ht => ?_)
        by_cases e : t = j
        · rw [e]; exact hl
        · exact hok t (by omega)
      have hge : gq (ab_ri h 2) (j + 1) = gq (ab_ri h 2) j + (if ab_ri h 2 (j : Int) = 46 then 1 else 0) := rfl
      refine mc_cx hmi 1 (F' := (28, [(0, .ref 1), (1, .int s), (2, .int g), (3, .int i)], [.ref 1], h, n, 0, 0)) (by with_unfolding_all rfl) ?_
      refine mc_getr hmi H (k := 1) (c := 2) (pc' := 31) rfl rfl rfl rfl rfl ?_
      refine mc_cx hmi 1 (F' := (32, [(0, .ref 1), (1, .int s), (2, .int g), (3, .int i)], [.int i, .ref 2], h, n, 0, 0)) (by with_unfolding_all rfl) ?_
      refine mc_iald hmi H (k := 2) (i := (j : Int)) (pc' := 33) rfl rfl rfl hi (by omega) (by omega) rfl (fun y130 e131 r132 r133 => ?_)
      rw [e131] at r132 r133
      refine mc_cx hmi 1 (F' := (35, [(0, .ref 1), (1, .int s), (2, .int g), (3, .int i)], [.int (Int8.ofInt 46).toInt32, .int y130], h, n, 0, 0)) (by with_unfolding_all rfl) ?_
      refine mc_ci hmi (c := .ne) (tg := 44) (pc' := 38) rfl rfl rfl e131 (by decide) (fun (q134 : ab_ri h 2 ((j : Int)) ≠ 46) => ?_) (fun (q134 : ab_ri h 2 ((j : Int)) = 46) => ?_)
      · rw [if_neg q134] at hge
        refine mc_cx hmi 1 (F' := (45, [(0, .ref 1), (1, .int s), (2, .int g), (3, .int i)], [.ref 1], h, n, 0, 0)) (by with_unfolding_all rfl) ?_
        refine mc_getr hmi H (k := 1) (c := 2) (pc' := 48) rfl rfl rfl rfl rfl ?_
        refine mc_cx hmi 1 (F' := (49, [(0, .ref 1), (1, .int s), (2, .int g), (3, .int i)], [.int i, .ref 2], h, n, 0, 0)) (by with_unfolding_all rfl) ?_
        refine mc_iald hmi H (k := 2) (i := (j : Int)) (pc' := 50) rfl rfl rfl hi (by omega) (by omega) rfl (fun y136 e137 r138 r139 => ?_)
        rw [e137] at r138 r139
        refine mc_callP hmi (en := (50, .invokestatic 56, 3, (4, 150, 0, 0), [497, 927])) rfl (q := (mt_X10_signOf, [.int y136], [])) (by with_unfolding_all rfl) ⟨rfl, rfl⟩ (pc' := 53) rfl (HS _ h n y136 hd (Or.inr trivial) H (by omega) (by omega)) (fun y140 e141 => ?_)
        rw [e137] at e141
        refine mc_cz hmi (c := .ge) (tg := 58) (pc' := 56) rfl rfl rfl rfl (fun (q142 : 0 ≤ y140.toInt) => ?_) (fun (q142 : y140.toInt < 0) => ?_)
        · exact k58 g (by omega) (Or.inr (e141.elim (fun q => q.1) (fun q => by omega)))
        · refine mc_cx hmi 1 (F' := (57, [(0, .ref 1), (1, .int s), (2, .int g), (3, .int i)], [.int (Int32.ofInt 0)], h, n, 0, 0)) (by with_unfolding_all rfl) ?_
          exact mc_ret hmi rfl rfl (mc_rb (by decide)) ⟨rfl, rfl, _, rfl, Or.inl (by decide)⟩
      · rw [if_pos q134] at hge
        refine mc_cx hmi 2 (F' := (58, [(2, .int (g + Int32.ofInt 1)), (0, .ref 1), (1, .int s), (3, .int i)], [], h, n, 0, 0)) (by with_unfolding_all rfl) ?_
        have e135 : (g + Int32.ofInt 1).toInt = (gq (ab_ri h 2) j : Int) + 1 := mc_add hg (by decide) (by omega) (by omega)
        refine mc_lvs (lv' := [(0, .ref 1), (1, .int s), (2, .int (g + Int32.ofInt 1)), (3, .int i)]) (by simp) ?_
        exact k58 (g + Int32.ofInt 1) (by rw [e135]; omega) (Or.inl q134)
set_option maxRecDepth 100000 in
theorem mc_isStone {l : Launch} {G : ax_T} {d : Nat} {h : ax_H} {n : Nat} (HS : SGN l G) (hd : 10 ≤ d) (H : mc_HW h n) : mc_M l G d mt_X7_isStone [.ref 1] h n (mc_P h n fun y => y.toInt = 0 ∨ y.toInt = 1 ∧ (1 ≤ PO h ∧ PO h ≤ 20 ∧ (∀ t : Nat, t < (PO h).toNat → ab_ri h 2 (t : Int) = 46 ∨ ab_ri h 2 (t : Int) ∈ ab_let) ∧ gq (ab_ri h 2) (PO h).toNat ≤ 3)) := by
  obtain ⟨d, rfl⟩ : ∃ e, d = e + 1 := ⟨d - 1, by omega⟩
  have hmi : mt_X7_isStone ∈ mt_prog := List.mem_of_getElem? mi_X7_isStone
  refine mc_to hmi rfl ?_
  show mc_R _ _ _ _ _ (0, [(0, .ref 1)], [], h, n, 0, 0)
  refine mc_cx hmi 1 (F' := (1, [(0, .ref 1)], [.ref 1], h, n, 0, 0)) (by with_unfolding_all rfl) ?_
  refine mc_callP hmi (en := (1, .invokestatic 52, 3, (3, 73, 0, 0), [925, 924])) rfl (q := (mt_X7_placesOn, [.ref 1], [])) (by with_unfolding_all rfl) ⟨rfl, rfl⟩ (pc' := 4) rfl (mc_placesOn (by omega) H) (fun y143 e144 => ?_)
  refine mc_cx hmi 3 (F' := (7, [(1, .int y143), (0, .ref 1)], [.int (Int32.ofInt 1), .int y143], h, n, 0, 0)) (by with_unfolding_all rfl) ?_
  have no : mc_R l G mt_X7_isStone d (mc_P h n fun y => y.toInt = 0 ∨ y.toInt = 1 ∧ (1 ≤ PO h ∧ PO h ≤ 20 ∧ (∀ t : Nat, t < (PO h).toNat → ab_ri h 2 (t : Int) = 46 ∨ ab_ri h 2 (t : Int) ∈ ab_let) ∧ gq (ab_ri h 2) (PO h).toNat ≤ 3)) (16, [(1, .int y143), (0, .ref 1)], [], h, n, 0, 0) := by
    refine mc_cx hmi 1 (F' := (17, [(1, .int y143), (0, .ref 1)], [.int (Int32.ofInt 0)], h, n, 0, 0)) (by with_unfolding_all rfl) ?_
    exact mc_ret hmi rfl rfl (mc_rb (by decide)) ⟨rfl, rfl, _, rfl, Or.inl (by decide)⟩
  refine mc_ci hmi (c := .lt) (tg := 16) (pc' := 10) rfl rfl rfl e144 (by decide) (fun (q145 : (PO h) < 1) => ?_) (fun (q145 : 1 ≤ (PO h)) => ?_)
  · exact no
  · refine mc_cx hmi 2 (F' := (13, [(1, .int y143), (0, .ref 1)], [.int (Int8.ofInt 20).toInt32, .int y143], h, n, 0, 0)) (by with_unfolding_all rfl) ?_
    refine mc_ci hmi (c := .le) (tg := 18) (pc' := 16) rfl rfl rfl e144 (by decide) (fun (q146 : (PO h) ≤ 20) => ?_) (fun (q146 : 20 < (PO h)) => ?_)
    · refine mc_cx hmi 4 (F' := (22, [(3, .int (Int32.ofInt 0)), (2, .int (Int32.ofInt 0)), (1, .int y143), (0, .ref 1)], [], h, n, 0, 0)) (by with_unfolding_all rfl) ?_
      refine mc_lvs (lv' := [(0, .ref 1), (1, .int y143), (2, .int (Int32.ofInt 0)), (3, .int (Int32.ofInt 0))]) (by simp) ?_
      exact is_loop HS (by omega) H y143 e144 q145 q146 (PO h).toNat 0 _ _ (by omega) rfl rfl (fun t ht => absurd ht (Nat.not_lt_zero t))
    · exact no
set_option maxRecDepth 100000 in
theorem cv_loop {l : Launch} {G : ax_T} {d : Nat} {Q : Option Value → ax_H → Nat → Prop} {h : ax_H} {n : Nat} (HS : SGN l G) (hd : 9 ≤ d) {N : Nat} (hs : ab_ri h 28 1 = (N : Int)) (hN : N ≤ 20) (hok : (∀ t : Nat, t < N → ab_ri h 2 (t : Int) = 46 ∨ ab_ri h 2 (t : Int) ∈ ab_let)) (kk : ∀ h' : ax_H, mc_HW h' n → (∀ (k' : Nat) (i' : Int), k' ≠ 29 → ab_rd h' k' i' = ab_rd h k' i') → (∀ t : Nat, t < N → (ab_ri h' 29 (t : Int) = 14 ↔ ab_ri h 2 (t : Int) = 46)) → mc_R l G mt_X7_carve d Q (63, [(0, .ref 28), (1, .ref 1)], [], h', n, 0, 0)) : ∀ (c j : Nat) (h' : ax_H) (i : Int32), j + c = N → i.toInt = (j : Int) → mc_HW h' n → (∀ (k' : Nat) (i' : Int), k' ≠ 29 → ab_rd h' k' i' = ab_rd h k' i') → (∀ t : Nat, t < j → (ab_ri h' 29 (t : Int) = 14 ↔ ab_ri h 2 (t : Int) = 46)) → mc_R l G mt_X7_carve d Q (18, [(0, .ref 28), (1, .ref 1), (2, .int i)], [], h', n, 0, 0) := by
  have hmi : mt_X7_carve ∈ mt_prog := List.mem_of_getElem? mi_X7_carve
  intro c
  induction c with
  | zero =>
    intro j h' i hj hi H' hfr hz
    have hpl : ab_ri h' 28 1 = (N : Int) := by rw [ab_ri_of (hfr 28 1 (by decide))]; exact hs
    refine mc_cx hmi 2 (F' := (20, [(0, .ref 28), (1, .ref 1), (2, .int i)], [.ref 28, .int i], h', n, 0, 0)) (by with_unfolding_all rfl) ?_
    refine mc_geti hmi H' (k := 28) (j := 1) (pc' := 23) rfl rfl rfl rfl (fun y147 (e148 : y147.toInt = ab_ri h' 28 1) r149 r150 => ?_)
    rw [e148] at r149 r150
    refine mc_ci hmi (c := .ge) (tg := 63) (pc' := 26) rfl rfl rfl hi e148 (fun (q151 : ab_ri h' 28 1 ≤ (j : Int)) => ?_) (fun (q151 : (j : Int) < ab_ri h' 28 1) => ?_)
    · refine mc_lvs (lv' := [(0, .ref 28), (1, .ref 1)]) (by simp) ?_
      have e : j = N := by omega
      rw [e] at hz
      exact kk h' H' hfr hz
    · exact absurd q151 (by omega)
  | succ c ih =>
    intro j h' i hj hi H' hfr hz
    have hpl : ab_ri h' 28 1 = (N : Int) := by rw [ab_ri_of (hfr 28 1 (by decide))]; exact hs
    refine mc_cx hmi 2 (F' := (20, [(0, .ref 28), (1, .ref 1), (2, .int i)], [.ref 28, .int i], h', n, 0, 0)) (by with_unfolding_all rfl) ?_
    refine mc_geti hmi H' (k := 28) (j := 1) (pc' := 23) rfl rfl rfl rfl (fun y152 (e153 : y152.toInt = ab_ri h' 28 1) r154 r155 => ?_)
    rw [e153] at r154 r155
    refine mc_ci hmi (c := .ge) (tg := 63) (pc' := 26) rfl rfl rfl hi e153 (fun (q156 : ab_ri h' 28 1 ≤ (j : Int)) => ?_) (fun (q156 : (j : Int) < ab_ri h' 28 1) => ?_)
    · exact absurd q156 (by omega)
    · have hpg : ab_ri h' 2 (j : Int) = ab_ri h 2 (j : Int) := ab_ri_of (hfr 2 _ (by decide))
      refine mc_cx hmi 1 (F' := (27, [(0, .ref 28), (1, .ref 1), (2, .int i)], [.ref 28], h', n, 0, 0)) (by with_unfolding_all rfl) ?_
      refine mc_getr hmi H' (k := 28) (c := 29) (pc' := 30) rfl rfl rfl rfl rfl ?_
      refine mc_cx hmi 2 (F' := (32, [(0, .ref 28), (1, .ref 1), (2, .int i)], [.ref 1, .int i, .ref 29], h', n, 0, 0)) (by with_unfolding_all rfl) ?_
      refine mc_getr hmi H' (k := 1) (c := 2) (pc' := 35) rfl rfl rfl rfl rfl ?_
      refine mc_cx hmi 1 (F' := (36, [(0, .ref 28), (1, .ref 1), (2, .int i)], [.int i, .ref 2, .int i, .ref 29], h', n, 0, 0)) (by with_unfolding_all rfl) ?_
      refine mc_iald hmi H' (k := 2) (i := (j : Int)) (pc' := 37) rfl rfl rfl hi (by omega) (by omega) rfl (fun y157 e158 r159 r160 => ?_)
      rw [e158] at r159 r160
      refine mc_cx hmi 1 (F' := (39, [(0, .ref 28), (1, .ref 1), (2, .int i)], [.int (Int8.ofInt 46).toInt32, .int y157, .int i, .ref 29], h', n, 0, 0)) (by with_unfolding_all rfl) ?_
      have k56 : ∀ u : Int32, 0 ≤ u.toInt → u.toInt ≤ 14 → (u.toInt = 14 ↔ ab_ri h 2 (j : Int) = 46) → mc_R l G mt_X7_carve d Q (56, [(0, .ref 28), (1, .ref 1), (2, .int i)], [.int u, .int i, .ref 29], h', n, 0, 0) := by
        intro u hu0 hu1 hu
        have b161 := Int32.le_toInt (u)
        have b162 := Int32.toInt_lt (u)
        refine mc_iast hmi H' (k := 29) (i := (j : Int)) (pc' := 57) rfl rfl rfl hi (by omega) (by omega) (by rw [show (u).toInt = u.toInt from rfl]; omega) (by rw [show (u).toInt = u.toInt from rfl]; omega) rfl (fun h163 H164 w165 => ?_)
        refine mc_cx hmi 2 (F' := (18, [(2, .int (i + Int32.ofInt 1)), (0, .ref 28), (1, .ref 1)], [], h163, n, 0, 0)) (by with_unfolding_all rfl) ?_
        have e166 : (i + Int32.ofInt 1).toInt = (j : Int) + 1 := mc_add hi (by decide) (by omega) (by omega)
        refine mc_lvs (lv' := [(0, .ref 28), (1, .ref 1), (2, .int (i + Int32.ofInt 1))]) (by simp) ?_
        refine ih (j + 1) h163 (i + Int32.ofInt 1) (by omega) (by rw [e166]; omega) H164 (fun k' i' hk => by rw [w165, if_neg (fun q => hk q.1)]; exact hfr k' i' hk) (fun t ht => ?_)
        rw [mc_ri w165]
        by_cases e : t = j
        · rw [if_pos ⟨rfl, by rw [e]⟩, e]; exact hu
        · rw [if_neg (fun q => by have := q.2; omega)]; exact hz t (by omega)
      refine mc_ci hmi (c := .ne) (tg := 47) (pc' := 42) rfl rfl rfl e158 (by decide) (fun (q167 : ab_ri h' 2 ((j : Int)) ≠ 46) => ?_) (fun (q167 : ab_ri h' 2 ((j : Int)) = 46) => ?_)
      · refine mc_cx hmi 1 (F' := (48, [(0, .ref 28), (1, .ref 1), (2, .int i)], [.ref 1, .int i, .ref 29], h', n, 0, 0)) (by with_unfolding_all rfl) ?_
        refine mc_getr hmi H' (k := 1) (c := 2) (pc' := 51) rfl rfl rfl rfl rfl ?_
        refine mc_cx hmi 1 (F' := (52, [(0, .ref 28), (1, .ref 1), (2, .int i)], [.int i, .ref 2, .int i, .ref 29], h', n, 0, 0)) (by with_unfolding_all rfl) ?_
        refine mc_iald hmi H' (k := 2) (i := (j : Int)) (pc' := 53) rfl rfl rfl hi (by omega) (by omega) rfl (fun y168 e169 r170 r171 => ?_)
        rw [e169] at r170 r171
        refine mc_callP hmi (en := (53, .invokestatic 56, 3, (4, 150, 0, 0), [497, 927])) rfl (q := (mt_X10_signOf, [.int y168], [.int i, .ref 29])) (by with_unfolding_all rfl) ⟨rfl, rfl⟩ (pc' := 56) rfl (HS _ h' n y168 hd (Or.inr trivial) H' (by omega) (by omega)) (fun y172 e173 => ?_)
        rw [e169, hpg] at e173
        have hne : ab_ri h 2 (j : Int) ≠ 46 := by rw [← hpg]; exact q167
        have hy : 0 ≤ y172.toInt ∧ y172.toInt ≤ 13 := e173.elim (fun q => q.2) (fun q => ((hok j (by omega)).elim (fun z => absurd z hne) (fun z => absurd z q.1)))
        exact k56 y172 hy.1 (by omega) ⟨fun q => by omega, fun q => absurd q hne⟩
      · refine mc_cx hmi 2 (F' := (56, [(0, .ref 28), (1, .ref 1), (2, .int i)], [.int (Int8.ofInt 14).toInt32, .int i, .ref 29], h', n, 0, 0)) (by with_unfolding_all rfl) ?_
        exact k56 _ (by decide) (by decide) ⟨fun _ => by rw [← hpg]; exact q167, fun _ => by decide⟩
set_option maxRecDepth 100000 in
theorem mc_carve {l : Launch} {G : ax_T} {d : Nat} {h : ax_H} {n : Nat} (HS : SGN l G) (hd : 10 ≤ d) (H : mc_HW h n) (hg : (1 ≤ PO h ∧ PO h ≤ 20 ∧ (∀ t : Nat, t < (PO h).toNat → ab_ri h 2 (t : Int) = 46 ∨ ab_ri h 2 (t : Int) ∈ ab_let) ∧ gq (ab_ri h 2) (PO h).toNat ≤ 3)) : mc_M l G d mt_X7_carve [.ref 28, .ref 1] h n (fun r' h' n' => n' = n ∧ r' = none ∧ mc_HW h' n ∧ (∀ (k' : Nat) (i' : Int), k' ≠ 29 → (k' = 28 → i' ≠ 1) → (k' = 28 → i' ≠ 2) → (k' = 28 → i' ≠ 8) → ab_rd h' k' i' = ab_rd h k' i') ∧ ab_gc h' 29 (ab_ri h' 28 1).toNat ≤ 3 ∧ ab_ri h' 28 1 ≤ ab_ri h' 28 2 ∧ ab_ri h' 28 2 ≤ ab_ri h' 28 1 + 1) := by
  obtain ⟨d, rfl⟩ : ∃ e, d = e + 1 := ⟨d - 1, by omega⟩
  have hmi : mt_X7_carve ∈ mt_prog := List.mem_of_getElem? mi_X7_carve
  obtain ⟨p1, p20, hok, hgq⟩ := hg
  have hpo : (PO h = ab_ri h 1 1 ∨ PO h = ab_ri h 1 1 - 1) := by unfold PO; split; exact Or.inr rfl; exact Or.inl rfl
  refine mc_to hmi rfl ?_
  show mc_R _ _ _ _ _ (0, [(0, .ref 28), (1, .ref 1)], [], h, n, 0, 0)
  refine mc_cx hmi 2 (F' := (2, [(0, .ref 28), (1, .ref 1)], [.ref 1, .ref 28], h, n, 0, 0)) (by with_unfolding_all rfl) ?_
  refine mc_callP hmi (en := (2, .invokestatic 52, 3, (3, 73, 0, 0), [925, 924])) rfl (q := (mt_X7_placesOn, [.ref 1], [.ref 28])) (by with_unfolding_all rfl) ⟨rfl, rfl⟩ (pc' := 5) rfl (mc_placesOn (by omega) H) (fun y174 e175 => ?_)
  refine mc_puti hmi H (k := 28) (j := 1) (pc' := 8) rfl rfl rfl rfl (by rw [e175]; omega) (by rw [e175]; omega) rfl (fun h176 H177 w178 => ?_)
  have g1 := mc_ri w178
  have c1 : ab_ri h176 1 1 = ab_ri h 1 1 := by rw [g1, if_neg (fun q => absurd q.1 (by decide))]
  refine mc_cx hmi 2 (F' := (10, [(0, .ref 28), (1, .ref 1)], [.ref 1, .ref 28], h176, n, 0, 0)) (by with_unfolding_all rfl) ?_
  refine mc_geti hmi H177 (k := 1) (j := 1) (pc' := 13) rfl rfl rfl rfl (fun y179 (e180 : y179.toInt = ab_ri h176 1 1) r181 r182 => ?_)
  rw [e180] at r181 r182
  refine mc_puti hmi H177 (k := 28) (j := 2) (pc' := 16) rfl rfl rfl rfl (by rw [e180]; omega) (by rw [e180]; omega) rfl (fun h183 H184 w185 => ?_)
  have g2 := mc_ri w185
  have c2 : ab_ri h183 28 1 = ((PO h).toNat : Int) := by rw [g2, if_neg (fun q => absurd q.2 (by decide)), g1, if_pos ⟨rfl, rfl⟩]; omega
  have c3 : ab_ri h183 28 2 = ab_ri h 1 1 := by rw [g2, if_pos ⟨rfl, rfl⟩]; omega
  have c4 : ab_ri h183 2 = ab_ri h 2 := funext fun i => by rw [g2, if_neg (fun q => absurd q.1 (by decide)), g1, if_neg (fun q => absurd q.1 (by decide))]
  refine mc_cx hmi 2 (F' := (18, [(2, .int (Int32.ofInt 0)), (0, .ref 28), (1, .ref 1)], [], h183, n, 0, 0)) (by with_unfolding_all rfl) ?_
  refine mc_lvs (lv' := [(0, .ref 28), (1, .ref 1), (2, .int (Int32.ofInt 0))]) (by simp) ?_
  refine cv_loop (h := h183) HS (by omega) (N := (PO h).toNat) c2 (by omega) (by rw [c4]; exact hok) (fun h3 H3 f3 g3 => ?_) (PO h).toNat 0 h183 _ (Nat.zero_add _) rfl H184 (fun _ _ _ => rfl) (fun t ht => absurd ht (Nat.not_lt_zero t))
  rw [c4] at g3
  have d1 : ab_ri h3 28 1 = ((PO h).toNat : Int) := by rw [ab_ri_of (f3 28 1 (by decide))]; exact c2
  have d2 : ab_ri h3 28 2 = ab_ri h 1 1 := by rw [ab_ri_of (f3 28 2 (by decide))]; exact c3
  have k85 : ∀ h4 : ax_H, mc_HW h4 n → (∀ (k' : Nat) (i' : Int), (k' = 29 → i' ≠ (PO h)) → ab_rd h4 k' i' = ab_rd h3 k' i') → mc_R l G mt_X7_carve d (fun r' h' n' => n' = n ∧ r' = none ∧ mc_HW h' n ∧ (∀ (k' : Nat) (i' : Int), k' ≠ 29 → (k' = 28 → i' ≠ 1) → (k' = 28 → i' ≠ 2) → (k' = 28 → i' ≠ 8) → ab_rd h' k' i' = ab_rd h k' i') ∧ ab_gc h' 29 (ab_ri h' 28 1).toNat ≤ 3 ∧ ab_ri h' 28 1 ≤ ab_ri h' 28 2 ∧ ab_ri h' 28 2 ≤ ab_ri h' 28 1 + 1) (85, [(0, .ref 28), (1, .ref 1)], [], h4, n, 0, 0) := by
    intro h4 H4 f4
    refine mc_cx hmi 2 (F' := (87, [(0, .ref 28), (1, .ref 1)], [.int (Int32.ofInt (-1)), .ref 28], h4, n, 0, 0)) (by with_unfolding_all rfl) ?_
    refine mc_puti hmi H4 (k := 28) (j := 8) (pc' := 90) rfl rfl rfl rfl (by rw [show ((Int32.ofInt (-1))).toInt = (-1) from by decide]; omega) (by rw [show ((Int32.ofInt (-1))).toInt = (-1) from by decide]; omega) rfl (fun h186 H187 w188 => ?_)
    have x1 : ab_ri h186 28 1 = ((PO h).toNat : Int) := by rw [mc_ri w188, if_neg (fun q => absurd q.2 (by decide)), ab_ri_of (f4 28 1 (fun q => absurd q (by decide)))]; exact d1
    have x2 : ab_ri h186 28 2 = ab_ri h 1 1 := by rw [mc_ri w188, if_neg (fun q => absurd q.2 (by decide)), ab_ri_of (f4 28 2 (fun q => absurd q (by decide)))]; exact d2
    refine mc_ret hmi rfl rfl rfl ⟨rfl, rfl, H187, fun k' i' p1 p2 p3 p4 => ?_, ?_, by omega, by omega⟩
    · rw [w188, if_neg (fun q => p4 q.1 q.2), f4 k' i' (fun q => absurd q p1), f3 k' i' p1, w185, if_neg (fun q => p3 q.1 q.2), w178, if_neg (fun q => p2 q.1 q.2)]
    · rw [x1, gc_gq (f := ab_ri h 2) ((PO h).toNat : Int).toNat (fun t ht => by rw [mc_ri w188, if_neg (fun q => absurd q.1 (by decide)), ab_ri_of (f4 29 (t : Int) (fun _ => by omega))]; exact g3 t (by omega))]
      exact hgq
  refine mc_cx hmi 1 (F' := (64, [(0, .ref 28), (1, .ref 1)], [.ref 28], h3, n, 0, 0)) (by with_unfolding_all rfl) ?_
  refine mc_geti hmi H3 (k := 28) (j := 2) (pc' := 67) rfl rfl rfl rfl (fun y189 (e190 : y189.toInt = ab_ri h3 28 2) r191 r192 => ?_)
  rw [e190] at r191 r192
  refine mc_cx hmi 1 (F' := (68, [(0, .ref 28), (1, .ref 1)], [.ref 28, .int y189], h3, n, 0, 0)) (by with_unfolding_all rfl) ?_
  refine mc_geti hmi H3 (k := 28) (j := 1) (pc' := 71) rfl rfl rfl rfl (fun y193 (e194 : y193.toInt = ab_ri h3 28 1) r195 r196 => ?_)
  rw [e194] at r195 r196
  refine mc_ci hmi (c := .le) (tg := 85) (pc' := 74) rfl rfl rfl e190 e194 (fun (q197 : ab_ri h3 28 2 ≤ ab_ri h3 28 1) => ?_) (fun (q197 : ab_ri h3 28 1 < ab_ri h3 28 2) => ?_)
  · exact k85 h3 H3 (fun _ _ _ => rfl)
  · refine mc_cx hmi 1 (F' := (75, [(0, .ref 28), (1, .ref 1)], [.ref 28], h3, n, 0, 0)) (by with_unfolding_all rfl) ?_
    refine mc_getr hmi H3 (k := 28) (c := 29) (pc' := 78) rfl rfl rfl rfl rfl ?_
    refine mc_cx hmi 1 (F' := (79, [(0, .ref 28), (1, .ref 1)], [.ref 28, .ref 29], h3, n, 0, 0)) (by with_unfolding_all rfl) ?_
    refine mc_geti hmi H3 (k := 28) (j := 1) (pc' := 82) rfl rfl rfl rfl (fun y198 (e199 : y198.toInt = ab_ri h3 28 1) r200 r201 => ?_)
    rw [e199] at r200 r201
    refine mc_cx hmi 1 (F' := (84, [(0, .ref 28), (1, .ref 1)], [.int (Int8.ofInt 14).toInt32, .int y198, .ref 29], h3, n, 0, 0)) (by with_unfolding_all rfl) ?_
    refine mc_iast hmi H3 (k := 29) (i := ab_ri h3 28 1) (pc' := 85) rfl rfl rfl e199 (by omega) (by omega) (by rw [show ((Int8.ofInt 14).toInt32).toInt = 14 from by decide]; omega) (by rw [show ((Int8.ofInt 14).toInt32).toInt = 14 from by decide]; omega) rfl (fun h202 H203 w204 => ?_)
    refine mc_lvs (lv' := [(0, .ref 28), (1, .ref 1)]) (by simp) ?_
    exact k85 h202 H203 (fun k' i' p => by rw [w204, if_neg (fun q => p q.1 (by rw [q.2]; omega))])
set_option maxRecDepth 100000 in
theorem mc_stone10 {l : Launch} {G : ax_T} {d : Nat} {h : ax_H} {n : Nat} (HS : SGN l G) (hd : 11 ≤ d) (H : mc_HW h n) : mc_M l G d mt_X10_stone [.ref 0] h n (fun r' h' n' => n' = n ∧ mc_HW h' n ∧ (∃ y : Int32, r' = some (.int y)) ∧ (∀ (k' : Nat) (i' : Int), k' ≠ 29 → (k' = 28 → i' ≠ 1) → (k' = 28 → i' ≠ 2) → (k' = 28 → i' ≠ 8) → (k' = 1 → i' ≠ 1) → ab_rd h' k' i' = ab_rd h k' i') ∧ ((ab_gc h 29 (ab_ri h 28 1).toNat ≤ 3 ∧ ab_ri h 28 1 ≤ ab_ri h 28 2 ∧ ab_ri h 28 2 ≤ ab_ri h 28 1 + 1) → (ab_gc h' 29 (ab_ri h' 28 1).toNat ≤ 3 ∧ ab_ri h' 28 1 ≤ ab_ri h' 28 2 ∧ ab_ri h' 28 2 ≤ ab_ri h' 28 1 + 1))) := by
  obtain ⟨d, rfl⟩ : ∃ e, d = e + 1 := ⟨d - 1, by omega⟩
  have hmi : mt_X10_stone ∈ mt_prog := List.mem_of_getElem? mi_X10_stone
  refine mc_to hmi rfl ?_
  show mc_R _ _ _ _ _ (0, [(0, .ref 0)], [], h, n, 0, 0)
  refine mc_cx hmi 1 (F' := (1, [(0, .ref 0)], [.ref 0], h, n, 0, 0)) (by with_unfolding_all rfl) ?_
  refine mc_getr hmi H (k := 0) (c := 1) (pc' := 4) rfl rfl rfl rfl rfl ?_
  refine mc_callP hmi (en := (4, .invokestatic 227, 3, (4, 74, 0, 0), [922, 921])) rfl (q := (mt_X7_isStone, [.ref 1], [])) (by with_unfolding_all rfl) ⟨rfl, rfl⟩ (pc' := 7) rfl (mc_isStone HS (by omega) H) (fun y205 e206 => ?_)
  refine mc_cz hmi (c := .ne) (tg := 13) (pc' := 10) rfl rfl rfl rfl (fun (q207 : y205.toInt ≠ 0) => ?_) (fun (q207 : y205.toInt = 0) => ?_)
  · have hg := (e206.elim (fun q => absurd q q207) (fun q => q.2))
    refine mc_cx hmi 1 (F' := (14, [(0, .ref 0)], [.ref 0], h, n, 0, 0)) (by with_unfolding_all rfl) ?_
    refine mc_getr hmi H (k := 0) (c := 28) (pc' := 17) rfl rfl rfl rfl rfl ?_
    refine mc_cx hmi 1 (F' := (18, [(0, .ref 0)], [.ref 0, .ref 28], h, n, 0, 0)) (by with_unfolding_all rfl) ?_
    refine mc_getr hmi H (k := 0) (c := 1) (pc' := 21) rfl rfl rfl rfl rfl ?_
    refine mc_call hmi (en := (21, .invokevirtual 230, 3, (4, 75, 7, 0), [930, 48, 928])) rfl (q := (mt_X7_carve, [.ref 28, .ref 1], [])) (mc_inv H (as := [.ref 1]) (rest := []) rfl (by with_unfolding_all rfl) rfl rfl rfl) ⟨rfl, rfl⟩ (pc' := 24) rfl (mc_mono (mc_carve HS (by omega) H hg) ?_)
    intro r2 h2 n2 P2
    obtain ⟨e1, e2, H2, f2, g1, g2, g3⟩ := P2
    rw [e1, e2]
    show mc_R _ _ _ _ _ (24, [(0, .ref 0)], [], h2, n, 0, 0)
    refine mc_cx hmi 1 (F' := (25, [(0, .ref 0)], [.ref 0], h2, n, 0, 0)) (by with_unfolding_all rfl) ?_
    refine mc_getr hmi H2 (k := 0) (c := 1) (pc' := 28) rfl rfl rfl rfl rfl ?_
    refine mc_cx hmi 1 (F' := (29, [(0, .ref 0)], [.int (Int32.ofInt 0), .ref 1], h2, n, 0, 0)) (by with_unfolding_all rfl) ?_
    refine mc_puti hmi H2 (k := 1) (j := 1) (pc' := 32) rfl rfl rfl rfl (by rw [show ((Int32.ofInt 0)).toInt = 0 from by decide]; omega) (by rw [show ((Int32.ofInt 0)).toInt = 0 from by decide]; omega) rfl (fun h208 H209 w210 => ?_)
    refine mc_cx hmi 1 (F' := (33, [(0, .ref 0)], [.ref 0], h208, n, 0, 0)) (by with_unfolding_all rfl) ?_
    refine mc_getr hmi H209 (k := 0) (c := 28) (pc' := 36) rfl rfl rfl rfl rfl ?_
    refine mc_geti hmi H209 (k := 28) (j := 1) (pc' := 39) rfl rfl rfl rfl (fun y211 (e212 : y211.toInt = ab_ri h208 28 1) r213 r214 => ?_)
    rw [e212] at r213 r214
    refine mc_ret hmi rfl rfl rfl ⟨rfl, H209, ⟨_, rfl⟩, fun k' i' p1 p2 p3 p4 p5 => ?_, fun _ => ?_⟩
    · rw [w210, if_neg (fun q => p5 q.1 q.2)]; exact f2 k' i' p1 p2 p3 p4
    · have gz := mc_ri w210
      rw [gz, if_neg (fun q => absurd q.1 (by decide)), gz, if_neg (fun q => absurd q.1 (by decide)), show ab_gc h208 29 (ab_ri h2 28 1).toNat = ab_gc h2 29 (ab_ri h2 28 1).toNat from ab_gc_of _ (fun i _ => by rw [w210, if_neg (fun q => absurd q.1 (by decide))])]
      exact ⟨g1, g2, g3⟩
  · refine mc_cx hmi 1 (F' := (12, [(0, .ref 0)], [.int (Int8.ofInt (-103)).toInt32], h, n, 0, 0)) (by with_unfolding_all rfl) ?_
    exact mc_ret hmi rfl rfl rfl ⟨rfl, H, ⟨_, rfl⟩, fun _ _ _ _ _ _ _ => rfl, id⟩
