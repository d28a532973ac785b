section
/-! ===== the worth of what is filled in, in the class (ways printed by wip/v2/mk99.py) ===== -/
set_option maxRecDepth 100000 in
theorem ct_isTaken {l : Launch} {G : ax_T} {d : Nat} {h : ax_H} {n : Nat} (hd : 1 ≤ d) (H : mc_HW h n) {F : Nat → Nat} {size : Nat} (hL : ab_ri h 30 1 = (size : Int)) (hs1 : size ≤ 21) (hF : ∀ j : Nat, j < size → ab_ri h 31 (j : Int) = (F j : Int)) (hF1 : ∀ j, j < size → F j < 14) {a t : Int32} {i : Nat} (ha : a.toInt = (i : Int)) (hi : i < size) (ht : i + 1 < size → t.toInt = (if wt F (F (i + 1)) (size - (i + 1) - 1) ((i + 1) + 1) = true then (1 : Int) else 0)) : mc_M l G d mt_X5_isTaken [.ref 30, .int a, .int t] h n (mc_P h n fun y => y.toInt = (if wt F (F i) (size - i - 1) (i + 1) = true then (1 : Int) else 0)) := by
  obtain ⟨d, rfl⟩ : ∃ e, d = e + 1 := ⟨d - 1, by omega⟩
  have hmi : mt_X5_isTaken ∈ mt_prog := List.mem_of_getElem? mi_X5_isTaken
  refine mc_to hmi rfl ?_
  show mc_R _ _ _ _ _ (0, [(0, .ref 30), (1, .int a), (2, .int t)], [], h, n, 0, 0)
  refine mc_cx hmi 4 (F' := (4, [(0, .ref 30), (1, .int a), (2, .int t)], [.ref 30, .int (a + (Int32.ofInt 1))], h, n, 0, 0)) (by with_unfolding_all rfl) ?_
  have e101 : (a + (Int32.ofInt 1)).toInt = (i : Int) + 1 := mc_add ha (by decide) (by omega) (by omega)
  refine mc_geti hmi H (k := 30) (j := 1) (pc' := 7) rfl rfl rfl rfl (fun y102 (e103 : y102.toInt = ab_ri h 30 1) r104 r105 => ?_)
  rw [e103] at r104 r105
  rw [hL] at e103
  refine mc_ci hmi (c := .lt) (tg := 12) (pc' := 10) rfl rfl rfl e101 e103 (fun (q106 : ((i : Int) + 1) < (size : Int)) => ?_) (fun (q106 : (size : Int) ≤ ((i : Int) + 1)) => ?_)
  · obtain ⟨c, hc⟩ : ∃ c, size - i - 1 = c + 1 := ⟨size - i - 2, by omega⟩
    have hc2 : size - (i + 1) - 1 = c := by omega
    have ht' := ht (by omega)
    rw [hc2] at ht'
    rw [hc]
    have hwt : wt F (F i) (c + 1) (i + 1) = if F (i + 1) = F i then wt F (F i) c (i + 1 + 1) else decide (F i < F (i + 1)) := rfl
    refine mc_cx hmi 1 (F' := (13, [(0, .ref 30), (1, .int a), (2, .int t)], [.ref 30], h, n, 0, 0)) (by with_unfolding_all rfl) ?_
    refine mc_getr hmi H (k := 30) (c := 31) (pc' := 16) rfl rfl rfl rfl rfl ?_
    refine mc_cx hmi 1 (F' := (17, [(0, .ref 30), (1, .int a), (2, .int t)], [.int a, .ref 31], h, n, 0, 0)) (by with_unfolding_all rfl) ?_
    refine mc_iald hmi H (k := 31) (i := (i : Int)) (pc' := 18) rfl rfl rfl ha (by omega) (by omega) rfl (fun y107 e108 r109 r110 => ?_)
    rw [e108] at r109 r110
    rw [hF i (by omega)] at e108
    refine mc_cx hmi 1 (F' := (19, [(0, .ref 30), (1, .int a), (2, .int t)], [.ref 30, .int y107], h, n, 0, 0)) (by with_unfolding_all rfl) ?_
    refine mc_getr hmi H (k := 30) (c := 31) (pc' := 22) rfl rfl rfl rfl rfl ?_
    refine mc_cx hmi 3 (F' := (25, [(0, .ref 30), (1, .int a), (2, .int t)], [.int (a + (Int32.ofInt 1)), .ref 31, .int y107], h, n, 0, 0)) (by with_unfolding_all rfl) ?_
    have e111 : (a + (Int32.ofInt 1)).toInt = (i : Int) + 1 := mc_add ha (by decide) (by omega) (by omega)
    refine mc_iald hmi H (k := 31) (i := ((i : Int) + 1)) (pc' := 26) rfl rfl rfl e111 (by omega) (by omega) rfl (fun y112 e113 r114 r115 => ?_)
    rw [e113] at r114 r115
    rw [show ((i : Int) + 1) = ((i + 1 : Nat) : Int) by omega, hF (i + 1) (by omega)] at e113
    refine mc_ci hmi (c := .ne) (tg := 33) (pc' := 29) rfl rfl rfl e108 e113 (fun (q116 : (F i : Int) ≠ (F (i + 1) : Int)) => ?_) (fun (q116 : (F i : Int) = (F (i + 1) : Int)) => ?_)
    · refine mc_cx hmi 1 (F' := (34, [(0, .ref 30), (1, .int a), (2, .int t)], [.ref 30], h, n, 0, 0)) (by with_unfolding_all rfl) ?_
      refine mc_getr hmi H (k := 30) (c := 31) (pc' := 37) rfl rfl rfl rfl rfl ?_
      refine mc_cx hmi 1 (F' := (38, [(0, .ref 30), (1, .int a), (2, .int t)], [.int a, .ref 31], h, n, 0, 0)) (by with_unfolding_all rfl) ?_
      refine mc_iald hmi H (k := 31) (i := (i : Int)) (pc' := 39) rfl rfl rfl ha (by omega) (by omega) rfl (fun y117 e118 r119 r120 => ?_)
      rw [e118] at r119 r120
      rw [hF i (by omega)] at e118
      refine mc_cx hmi 1 (F' := (40, [(0, .ref 30), (1, .int a), (2, .int t)], [.ref 30, .int y117], h, n, 0, 0)) (by with_unfolding_all rfl) ?_
      refine mc_getr hmi H (k := 30) (c := 31) (pc' := 43) rfl rfl rfl rfl rfl ?_
      refine mc_cx hmi 3 (F' := (46, [(0, .ref 30), (1, .int a), (2, .int t)], [.int (a + (Int32.ofInt 1)), .ref 31, .int y117], h, n, 0, 0)) (by with_unfolding_all rfl) ?_
      have e121 : (a + (Int32.ofInt 1)).toInt = (i : Int) + 1 := mc_add ha (by decide) (by omega) (by omega)
      refine mc_iald hmi H (k := 31) (i := ((i : Int) + 1)) (pc' := 47) rfl rfl rfl e121 (by omega) (by omega) rfl (fun y122 e123 r124 r125 => ?_)
      rw [e123] at r124 r125
      rw [show ((i : Int) + 1) = ((i + 1 : Nat) : Int) by omega, hF (i + 1) (by omega)] at e123
      refine mc_ci hmi (c := .ge) (tg := 54) (pc' := 50) rfl rfl rfl e118 e123 (fun (q126 : (F (i + 1) : Int) ≤ (F i : Int)) => ?_) (fun (q126 : (F i : Int) < (F (i + 1) : Int)) => ?_)
      · refine mc_cx hmi 1 (F' := (55, [(0, .ref 30), (1, .int a), (2, .int t)], [.int (Int32.ofInt 0)], h, n, 0, 0)) (by with_unfolding_all rfl) ?_
        refine mc_ret hmi rfl rfl (mc_rb (by decide)) ⟨rfl, rfl, _, rfl, ?_⟩
        have hv : wt F (F i) (c + 1) (i + 1) = false := by rw [hwt, if_neg (show ¬ F (i + 1) = F i by omega), decide_eq_false (show ¬ F i < F (i + 1) by omega)]
        rw [hv]
        rfl
      · refine mc_cx hmi 2 (F' := (55, [(0, .ref 30), (1, .int a), (2, .int t)], [.int (Int32.ofInt 1)], h, n, 0, 0)) (by with_unfolding_all rfl) ?_
        refine mc_ret hmi rfl rfl (mc_rb (by decide)) ⟨rfl, rfl, _, rfl, ?_⟩
        have hv : wt F (F i) (c + 1) (i + 1) = true := by rw [hwt, if_neg (show ¬ F (i + 1) = F i by omega), decide_eq_true (show F i < F (i + 1) by omega)]
        rw [hv]
        rfl
    · have q : F i = F (i + 1) := by omega
      refine mc_cx hmi 2 (F' := (55, [(0, .ref 30), (1, .int a), (2, .int t)], [.int t], h, n, 0, 0)) (by with_unfolding_all rfl) ?_
      refine mc_ret hmi rfl rfl (mc_rb (by rw [ht']; split <;> first | exact Or.inr rfl | exact Or.inl rfl)) ⟨rfl, rfl, _, rfl, ?_⟩
      rw [hwt, if_pos q.symm, q]
      exact ht'
  · refine mc_cx hmi 1 (F' := (11, [(0, .ref 30), (1, .int a), (2, .int t)], [.int (Int32.ofInt 0)], h, n, 0, 0)) (by with_unfolding_all rfl) ?_
    refine mc_ret hmi rfl rfl (mc_rb (by decide)) ⟨rfl, rfl, _, rfl, ?_⟩
    rw [show size - i - 1 = 0 by omega]
    rfl
set_option maxHeartbeats 4000000 in
set_option maxRecDepth 100000 in
theorem ct_loop {l : Launch} {G : ax_T} {d : Nat} {h : ax_H} {n : Nat} (hd : 1 ≤ d) (H : mc_HW h n) {F : Nat → Nat} {size : Nat} (hL : ab_ri h 30 1 = (size : Int)) (hs1 : size ≤ 21) (hF : ∀ j : Nat, j < size → ab_ri h 31 (j : Int) = (F j : Int)) (hF1 : ∀ j, j < size → F j < 14) : ∀ (c : Nat) (sm t a : Int32), c ≤ size → a.toInt = (c : Int) - 1 → sm.toInt = wo F size size - wo F size c → (c < size → t.toInt = (if wt F (F c) (size - c - 1) (c + 1) = true then (1 : Int) else 0)) → mc_R l G mt_X5_total d (mc_P h n fun y => y.toInt = wo F size size) (11, [(0, .ref 30), (1, .int sm), (2, .int t), (3, .int a)], [], h, n, 0, 0) := by
  have hmi : mt_X5_total ∈ mt_prog := List.mem_of_getElem? mi_X5_total
  intro c
  induction c with
  | zero =>
    intro sm t a hc ha hsm ht
    refine mc_cx hmi 1 (F' := (12, [(0, .ref 30), (1, .int sm), (2, .int t), (3, .int a)], [.int a], h, n, 0, 0)) (by with_unfolding_all rfl) ?_
    refine mc_cz hmi (c := .lt) (tg := 59) (pc' := 15) rfl rfl rfl ha (fun (q127 : ((0 : Nat) : Int) - 1 < 0) => ?_) (fun (q127 : 0 ≤ ((0 : Nat) : Int) - 1) => ?_)
    · refine mc_cx hmi 1 (F' := (60, [(0, .ref 30), (1, .int sm), (2, .int t), (3, .int a)], [.int sm], h, n, 0, 0)) (by with_unfolding_all rfl) ?_
      refine mc_ret hmi rfl rfl rfl ⟨rfl, rfl, _, rfl, ?_⟩
      show sm.toInt = wo F size size
      rw [hsm]
      exact Int.sub_zero _
    · exact absurd q127 (by decide)
  | succ i ih =>
    intro sm t a hc ha' hsm ht
    have ha : a.toInt = (i : Int) := by rw [ha']; omega
    have hFi := hF1 i (by omega)
    have hw14 := pg_w_r (F i) hFi
    have b1 := wo_b hF1 size (Nat.le_refl size)
    have b2 := wo_b hF1 (i + 1) hc
    have b3 := wo_b hF1 i (by omega)
    have hstep : wo F size (i + 1) = wo F size i + (if wt F (F i) (size - i - 1) (i + 1) = true then -pg_w (F i : Int) else pg_w (F i : Int)) := rfl
    refine mc_cx hmi 1 (F' := (12, [(0, .ref 30), (1, .int sm), (2, .int t), (3, .int a)], [.int a], h, n, 0, 0)) (by with_unfolding_all rfl) ?_
    refine mc_cz hmi (c := .lt) (tg := 59) (pc' := 15) rfl rfl rfl ha (fun (q128 : (i : Int) < 0) => ?_) (fun (q128 : 0 ≤ (i : Int)) => ?_)
    · exact absurd q128 (by omega)
    · refine mc_cx hmi 3 (F' := (18, [(0, .ref 30), (1, .int sm), (2, .int t), (3, .int a)], [.int t, .int a, .ref 30], h, n, 0, 0)) (by with_unfolding_all rfl) ?_
      refine mc_callP hmi (en := (18, .invokevirtual 19, 3, (3, 59, 5, 0), [691, 15, 689])) rfl (q := (mt_X5_isTaken, [.ref 30, .int a, .int t], [])) (mc_inv H (as := [.int a, .int t]) (rest := []) rfl (by with_unfolding_all rfl) rfl rfl rfl) ⟨rfl, rfl⟩ (pc' := 21) rfl (ct_isTaken hd H hL hs1 hF hF1 ha (by omega) ht) (fun y129 e130 => ?_)
      refine mc_cx hmi 2 (F' := (23, [(2, .int y129), (0, .ref 30), (1, .int sm), (3, .int a)], [.int sm], h, n, 0, 0)) (by with_unfolding_all rfl) ?_
      refine mc_cx hmi 1 (F' := (24, [(2, .int y129), (0, .ref 30), (1, .int sm), (3, .int a)], [.int y129, .int sm], h, n, 0, 0)) (by with_unfolding_all rfl) ?_
      refine mc_cz hmi (c := .eq) (tg := 41) (pc' := 27) rfl rfl rfl e130 (fun (q131 : (if wt F (F i) (size - i - 1) (i + 1) = true then (1 : Int) else 0) = 0) => ?_) (fun (q131 : (if wt F (F i) (size - i - 1) (i + 1) = true then (1 : Int) else 0) ≠ 0) => ?_)
      · have hq : ¬ wt F (F i) (size - i - 1) (i + 1) = true := (fun q => absurd ((if_pos q).symm.trans q131) (by decide))
        rw [if_neg hq] at hstep
        refine mc_cx hmi 2 (F' := (45, [(2, .int y129), (0, .ref 30), (1, .int sm), (3, .int a)], [.ref 30, .retAddr 0, .int sm], h, n, 0, 0)) (by with_unfolding_all rfl) ?_
        refine mc_getr hmi H (k := 30) (c := 31) (pc' := 48) rfl rfl rfl rfl rfl ?_
        refine mc_cx hmi 1 (F' := (49, [(2, .int y129), (0, .ref 30), (1, .int sm), (3, .int a)], [.int a, .ref 31, .retAddr 0, .int sm], h, n, 0, 0)) (by with_unfolding_all rfl) ?_
        refine mc_iald hmi H (k := 31) (i := (i : Int)) (pc' := 50) rfl rfl rfl ha (by omega) (by omega) rfl (fun y132 e133 r134 r135 => ?_)
        rw [e133] at r134 r135
        rw [hF i (by omega)] at e133
        refine mc_sald hmi (i := (F i : Int)) (pc' := 51) rfl e133 (by omega) (by omega) rfl (fun y136 e137 => ?_)
        refine mc_cx hmi 4 (F' := (11, [(3, .int (a + Int32.ofInt (-1))), (1, .int (sm + y136)), (2, .int y129), (0, .ref 30)], [], h, n, 0, 0)) (by with_unfolding_all rfl) ?_
        have e138 : (sm + y136).toInt = (wo F size size - wo F size (i + 1)) + pg_w ((F i : Int)) := mc_add hsm e137 (by omega) (by omega)
        have e139 : (a + Int32.ofInt (-1)).toInt = (i : Int) + (-1) := mc_add ha (by decide) (by omega) (by omega)
        generalize (a + Int32.ofInt (-1)) = z140 at e139 ⊢
        refine mc_lvs (lv' := [(0, .ref 30), (1, .int (sm + y136)), (2, .int y129), (3, .int z140)]) (by simp) ?_
        exact ih (sm + y136) y129 z140 (by omega) (by rw [e139]; omega) (by rw [e138, hstep]; omega) (fun _ => e130)
      · have hq : wt F (F i) (size - i - 1) (i + 1) = true := (Decidable.byContradiction fun q => q131 (if_neg q))
        rw [if_pos hq] at hstep
        refine mc_cx hmi 2 (F' := (31, [(2, .int y129), (0, .ref 30), (1, .int sm), (3, .int a)], [.ref 30, .retAddr 0, .int sm], h, n, 0, 0)) (by with_unfolding_all rfl) ?_
        refine mc_getr hmi H (k := 30) (c := 31) (pc' := 34) rfl rfl rfl rfl rfl ?_
        refine mc_cx hmi 1 (F' := (35, [(2, .int y129), (0, .ref 30), (1, .int sm), (3, .int a)], [.int a, .ref 31, .retAddr 0, .int sm], h, n, 0, 0)) (by with_unfolding_all rfl) ?_
        refine mc_iald hmi H (k := 31) (i := (i : Int)) (pc' := 36) rfl rfl rfl ha (by omega) (by omega) rfl (fun y141 e142 r143 r144 => ?_)
        rw [e142] at r143 r144
        rw [hF i (by omega)] at e142
        refine mc_sald hmi (i := (F i : Int)) (pc' := 37) rfl e142 (by omega) (by omega) rfl (fun y145 e146 => ?_)
        refine mc_cx hmi 6 (F' := (11, [(3, .int (a + Int32.ofInt (-1))), (1, .int (sm + (-y145))), (2, .int y129), (0, .ref 30)], [], h, n, 0, 0)) (by with_unfolding_all rfl) ?_
        have e147 : (-y145).toInt = -pg_w ((F i : Int)) := mc_neg e146 (by omega)
        have e148 : (sm + (-y145)).toInt = (wo F size size - wo F size (i + 1)) + (-pg_w ((F i : Int))) := mc_add hsm e147 (by omega) (by omega)
        have e149 : (a + Int32.ofInt (-1)).toInt = (i : Int) + (-1) := mc_add ha (by decide) (by omega) (by omega)
        generalize (a + Int32.ofInt (-1)) = z150 at e149 ⊢
        refine mc_lvs (lv' := [(0, .ref 30), (1, .int (sm + (-y145))), (2, .int y129), (3, .int z150)]) (by simp) ?_
        exact ih (sm + (-y145)) y129 z150 (by omega) (by rw [e149]; omega) (by rw [e148, hstep]; omega) (fun _ => e130)
set_option maxRecDepth 100000 in
theorem ct_total {l : Launch} {G : ax_T} {d : Nat} {h : ax_H} {n : Nat} (hd : 2 ≤ d) (H : mc_HW h n) {F : Nat → Nat} {size : Nat} (hL : ab_ri h 30 1 = (size : Int)) (hs1 : size ≤ 21) (hF : ∀ j : Nat, j < size → ab_ri h 31 (j : Int) = (F j : Int)) (hF1 : ∀ j, j < size → F j < 14) : mc_M l G d mt_X5_total [.ref 30] h n (mc_P h n fun y => y.toInt = wo F size size) := by
  obtain ⟨d, rfl⟩ : ∃ e, d = e + 1 := ⟨d - 1, by omega⟩
  have hmi : mt_X5_total ∈ mt_prog := List.mem_of_getElem? mi_X5_total
  refine mc_to hmi rfl ?_
  show mc_R _ _ _ _ _ (0, [(0, .ref 30)], [], h, n, 0, 0)
  refine mc_cx hmi 5 (F' := (5, [(2, .int (Int32.ofInt 0)), (1, .int (Int32.ofInt 0)), (0, .ref 30)], [.ref 30], h, n, 0, 0)) (by with_unfolding_all rfl) ?_
  refine mc_geti hmi H (k := 30) (j := 1) (pc' := 8) rfl rfl rfl rfl (fun y151 (e152 : y151.toInt = ab_ri h 30 1) r153 r154 => ?_)
  rw [e152] at r153 r154
  rw [hL] at e152
  refine mc_cx hmi 3 (F' := (11, [(3, .int (y151 - (Int32.ofInt 1))), (2, .int (Int32.ofInt 0)), (1, .int (Int32.ofInt 0)), (0, .ref 30)], [], h, n, 0, 0)) (by with_unfolding_all rfl) ?_
  have e155 : (y151 - (Int32.ofInt 1)).toInt = (size : Int) - 1 := mc_sub e152 (by decide) (by omega) (by omega)
  refine mc_lvs (lv' := [(0, .ref 30), (1, .int (Int32.ofInt 0)), (2, .int (Int32.ofInt 0)), (3, .int (y151 - (Int32.ofInt 1)))]) (by simp) ?_
  exact ct_loop (by omega) H hL hs1 hF hF1 size _ _ _ (Nat.le_refl size) e155 (by rw [Int.sub_self]; decide) (fun z => absurd z (Nat.lt_irrefl size))
end
section
/-! ===== what the class keeps of a filling (ways printed by wip/v2/mk99b.py) ===== -/
/-- the sign that all fillings share; -1: there is none -/
def cf (T : Nat → Prop) (c : Int) : Prop := (∃ x : Nat, c = (x : Int) ∧ x < 14 ∧ T x ∧ ∀ y, T y → y = x) ∨ c = -1 ∧ ((∀ x, ¬ T x) ∨ ∃ x y : Nat, T x ∧ T y ∧ x ≠ y)
theorem cf_ex {T T' : Nat → Prop} {c : Int} (e : ∀ x, T x ↔ T' x) (s : cf T c) : cf T' c := by
  rcases s with ⟨x, a, b, c', d⟩ | ⟨a, b | ⟨x, y, b, c', d⟩⟩
  · exact Or.inl ⟨x, a, b, (e x).mp c', fun y q => d y ((e y).mpr q)⟩
  · exact Or.inr ⟨a, Or.inl fun x q => b x ((e x).mpr q)⟩
  · exact Or.inr ⟨a, Or.inr ⟨x, y, (e x).mp b, (e y).mp c', d⟩⟩
theorem cf_1 {T : Nat → Prop} {c : Int} {x m : Nat} (hx : x < 14) (hm : m = 0 ↔ ∀ y, ¬ T y) (s : cf T c) : cf (fun y => T y ∨ y = x) (if m = 0 then (x : Int) else if c = (x : Int) then c else -1) := by
  by_cases h0 : m = 0
  · rw [if_pos h0]
    exact Or.inl ⟨x, rfl, hx, Or.inr rfl, fun y q => q.elim (fun u => absurd u (hm.mp h0 y)) id⟩
  · rw [if_neg h0]
    rcases s with ⟨z, a, b, c', d⟩ | ⟨a, b | ⟨z, y, b, c', d⟩⟩
    · by_cases q : c = (x : Int)
      · rw [if_pos q]
        exact Or.inl ⟨x, q, hx, Or.inr rfl, fun y u => u.elim (fun v => by have := d y v; omega) id⟩
      · rw [if_neg q]
        exact Or.inr ⟨rfl, Or.inr ⟨z, x, Or.inl c', Or.inr rfl, by omega⟩⟩
    · exact absurd (hm.mpr b) h0
    · rw [if_neg (by omega)]
      exact Or.inr ⟨rfl, Or.inr ⟨z, y, Or.inl b, Or.inl c', d⟩⟩
/-- what stands of the fillings D in the class: m worths in w, the shared signs -/
def CS (h : ax_H) (w m p : Nat) (D : fl_D) : Prop := ab_ri h 28 6 = (m : Int) ∧ (∀ v : Int, fl_W D v ↔ ∃ j : Nat, j < m ∧ ab_ri h w (j : Int) = v) ∧ (∀ i : Nat, i < p → cf (fl_T D i) (ab_ri h 33 (i : Int))) ∧ (m = 0 ↔ ∀ s g, ¬ D s g)
theorem CS_ex {h : ax_H} {w m p : Nat} {D D' : fl_D} (e : ∀ s g, D s g ↔ D' s g) (S : CS h w m p D) : CS h w m p D' := by
  obtain ⟨a, b, c, d⟩ := S
  refine ⟨a, fun v => ?_, fun i hi => cf_ex (fun x => ?_) (c i hi), ?_⟩
  · rw [← b v]
    exact ⟨fun ⟨s, g, z, q⟩ => ⟨s, g, (e s g).mpr z, q⟩, fun ⟨s, g, z, q⟩ => ⟨s, g, (e s g).mp z, q⟩⟩
  · exact ⟨fun ⟨s, g, z, q⟩ => ⟨s, g, (e s g).mp z, q⟩, fun ⟨s, g, z, q⟩ => ⟨s, g, (e s g).mpr z, q⟩⟩
  · rw [d]
    exact ⟨fun z s g q => z s g ((e s g).mpr q), fun z s g q => z s g ((e s g).mp q)⟩
theorem CS_fr {h h' : ax_H} {w m p : Nat} {D : fl_D} (e : ∀ (k' : Nat) (i' : Int), k' = w ∧ 0 ≤ i' ∨ k' = 33 ∨ k' = 28 ∧ i' = 6 → ab_rd h' k' i' = ab_rd h k' i') (S : CS h w m p D) : CS h' w m p D := by
  obtain ⟨a, b, c, d⟩ := S
  refine ⟨(ab_ri_of (e 28 6 (Or.inr (Or.inr ⟨rfl, rfl⟩)))).trans a, fun v => ?_, fun i hi => ?_, d⟩
  · rw [b v]
    exact ⟨fun ⟨j, q, r⟩ => ⟨j, q, (ab_ri_of (e w (j : Int) (Or.inl ⟨rfl, by omega⟩))).trans r⟩, fun ⟨j, q, r⟩ => ⟨j, q, (ab_ri_of (e w (j : Int) (Or.inl ⟨rfl, by omega⟩))).symm.trans r⟩⟩
  · rw [ab_ri_of (e 33 (i : Int) (Or.inr (Or.inl rfl)))]
    exact c i hi
/-- one more -/
theorem CS_1 {h h' : ax_H} {w m p size : Nat} {D : fl_D} {F : Nat → Nat} (hps : p ≤ size) (hF1 : ∀ j, j < size → F j < 14) (S : CS h w m p D) (e1 : ab_ri h' 28 6 = (m : Int) + 1) (e2 : ∀ i : Int, 0 ≤ i → ab_ri h' w i = if i = (m : Int) then wo F size size else ab_ri h w i) (e3 : ∀ i : Nat, i < p → ab_ri h' 33 (i : Int) = if m = 0 then (F i : Int) else if ab_ri h 33 (i : Int) = (F i : Int) then ab_ri h 33 (i : Int) else -1) : CS h' w (m + 1) p (fl_1 D size F) := by
  obtain ⟨a, b, c, d⟩ := S
  refine ⟨by rw [e1]; omega, fun v => ?_, fun i hi => ?_, ⟨fun z => absurd z (Nat.succ_ne_zero m), fun z => absurd (Or.inr ⟨rfl, fun _ _ => rfl⟩) (z size F)⟩⟩
  · rw [fl_W1 v, b v]
    constructor
    · rintro (⟨j, q, r⟩ | r)
      · exact ⟨j, by omega, by rw [e2 _ (by omega), if_neg (by omega)]; exact r⟩
      · exact ⟨m, by omega, by rw [e2 _ (by omega), if_pos rfl]; exact r.symm⟩
    · rintro ⟨j, q, r⟩
      rw [e2 _ (by omega)] at r
      by_cases u : j = m
      · rw [if_pos (by omega)] at r
        exact Or.inr r.symm
      · rw [if_neg (by omega)] at r
        exact Or.inl ⟨j, by omega, r⟩
  · rw [e3 i hi]
    refine cf_ex (fun x => (fl_T1 (by omega) x).symm) (cf_1 (hF1 i (by omega)) ?_ (c i hi))
    rw [d]
    exact ⟨fun z y ⟨s, g, u, _⟩ => z s g u, fun z s g u => z (g i) ⟨s, g, u, rfl⟩⟩
set_option maxHeartbeats 4000000 in
set_option maxRecDepth 100000 in
theorem kf_loop {l : Launch} {G : ax_T} {d : Nat} {h : ax_H} {n : Nat} (H0 : mc_HW h n) {s : Int32} {p m : Nat} (hp : ab_ri h 28 1 = (p : Int)) (hm : ab_ri h 28 6 = (m : Int)) (hm1 : m < 41160) {F : Nat → Nat} (hF : ∀ j : Nat, j < p → ab_ri h 31 (j : Int) = (F j : Int)) (hF1 : ∀ j, j < p → F j < 14) : ∀ (c j : Nat) (h' : ax_H) (i : Int32), j + c = p → i.toInt = (j : Int) → mc_HW h' n → (∀ (k' : Nat) (i' : Int), k' ≠ 33 → ab_rd h' k' i' = ab_rd h k' i') → (∀ t : Nat, t < p → ab_ri h' 33 (t : Int) = if t < j then (if m = 0 then (F t : Int) else if ab_ri h 33 (t : Int) = (F t : Int) then ab_ri h 33 (t : Int) else -1) else ab_ri h 33 (t : Int)) → mc_R l G mt_X7_keepFilling d (fun r' h' n' => n' = n ∧ r' = none ∧ ∃ h0 : ax_H, (∀ (k' : Nat) (i' : Int), k' ≠ 33 → ab_rd h0 k' i' = ab_rd h k' i') ∧ (∀ t : Nat, t < p → ab_ri h0 33 (t : Int) = if t < p then (if m = 0 then (F t : Int) else if ab_ri h 33 (t : Int) = (F t : Int) then ab_ri h 33 (t : Int) else -1) else ab_ri h 33 (t : Int)) ∧ mc_HW h' n ∧ ∀ (k' : Nat) (i' : Int), ab_rd h' k' i' = if k' = 28 ∧ i' = 6 then some (.int (Int32.ofInt ((m : Int) + 1))) else ab_rd h0 k' i') (39, [(0, .ref 28), (1, .int s), (2, .int i)], [], h', n, 0, 0) := by
  have hmi : mt_X7_keepFilling ∈ mt_prog := List.mem_of_getElem? mi_X7_keepFilling
  have hp20 : 0 ≤ ab_ri h 28 1 ∧ ab_ri h 28 1 ≤ 20 := mc_frng H0 (k := 28) (j := 1) (ci := 7) rfl rfl
  intro c
  induction c with
  | zero =>
    intro j h' i hj hi H' hfr hT
    have hpl : ab_ri h' 28 1 = (p : Int) := (ab_ri_of (hfr 28 1 (by decide))).trans hp
    have hml : ab_ri h' 28 6 = (m : Int) := (ab_ri_of (hfr 28 6 (by decide))).trans hm
    have hfl : ∀ t : Nat, t < p → ab_ri h' 31 (t : Int) = (F t : Int) := fun t ht => (ab_ri_of (hfr 31 (t : Int) (by decide))).trans (hF t ht)
    refine mc_cx hmi 2 (F' := (41, [(0, .ref 28), (1, .int s), (2, .int i)], [.ref 28, .int i], h', n, 0, 0)) (by with_unfolding_all rfl) ?_
    refine mc_geti hmi H' (k := 28) (j := 1) (pc' := 44) rfl rfl rfl rfl (fun y101 (e102 : y101.toInt = ab_ri h' 28 1) r103 r104 => ?_)
    rw [e102] at r103 r104
    rw [hpl] at e102
    refine mc_ci hmi (c := .ge) (tg := 103) (pc' := 47) rfl rfl rfl hi e102 (fun (q105 : (p : Int) ≤ (j : Int)) => ?_) (fun (q105 : (j : Int) < (p : Int)) => ?_)
    · obtain rfl : j = p := by omega
      refine mc_cx hmi 2 (F' := (105, [(0, .ref 28), (1, .int s), (2, .int i)], [.ref 28, .ref 28], h', n, 0, 0)) (by with_unfolding_all rfl) ?_
      refine mc_geti hmi H' (k := 28) (j := 6) (pc' := 108) rfl rfl rfl rfl (fun y106 (e107 : y106.toInt = ab_ri h' 28 6) r108 r109 => ?_)
      rw [e107] at r108 r109
      rw [hml] at e107
      refine mc_cx hmi 2 (F' := (110, [(0, .ref 28), (1, .int s), (2, .int i)], [.int (y106 + (Int32.ofInt 1)), .ref 28], h', n, 0, 0)) (by with_unfolding_all rfl) ?_
      have e110 : (y106 + (Int32.ofInt 1)).toInt = (m : Int) + 1 := mc_add e107 (by decide) (by omega) (by omega)
      have ev : (y106 + (Int32.ofInt 1)) = Int32.ofInt ((m : Int) + 1) := Int32.toInt_inj.mp (by rw [e110, Int32.toInt_ofInt_of_le (by omega) (by omega)])
      refine mc_puti hmi H' (k := 28) (j := 6) (pc' := 113) rfl rfl rfl rfl (by rw [e110]; omega) (by rw [e110]; omega) rfl (fun h111 H112 w113 => ?_)
      rw [ev] at w113
      exact mc_ret hmi rfl rfl rfl ⟨rfl, rfl, h', hfr, fun t ht => hT t ht, H112, w113⟩
    · exact absurd q105 (by omega)
  | succ c ih =>
    intro j h' i hj hi H' hfr hT
    have hpl : ab_ri h' 28 1 = (p : Int) := (ab_ri_of (hfr 28 1 (by decide))).trans hp
    have hml : ab_ri h' 28 6 = (m : Int) := (ab_ri_of (hfr 28 6 (by decide))).trans hm
    have hfl : ∀ t : Nat, t < p → ab_ri h' 31 (t : Int) = (F t : Int) := fun t ht => (ab_ri_of (hfr 31 (t : Int) (by decide))).trans (hF t ht)
    refine mc_cx hmi 2 (F' := (41, [(0, .ref 28), (1, .int s), (2, .int i)], [.ref 28, .int i], h', n, 0, 0)) (by with_unfolding_all rfl) ?_
    refine mc_geti hmi H' (k := 28) (j := 1) (pc' := 44) rfl rfl rfl rfl (fun y114 (e115 : y114.toInt = ab_ri h' 28 1) r116 r117 => ?_)
    rw [e115] at r116 r117
    rw [hpl] at e115
    refine mc_ci hmi (c := .ge) (tg := 103) (pc' := 47) rfl rfl rfl hi e115 (fun (q118 : (p : Int) ≤ (j : Int)) => ?_) (fun (q118 : (j : Int) < (p : Int)) => ?_)
    · exact absurd q118 (by omega)
    · have hFj := hF1 j (by omega)
      have hTj := hT j (by omega)
      rw [if_neg (Nat.lt_irrefl j)] at hTj
      have fin : ∀ (h2 : ax_H) (H2 : mc_HW h2 n), (∀ (k' : Nat) (i' : Int), k' ≠ 33 → ab_rd h2 k' i' = ab_rd h k' i') → (∀ t : Nat, t < p → ab_ri h2 33 (t : Int) = if t < j + 1 then (if m = 0 then (F t : Int) else if ab_ri h 33 (t : Int) = (F t : Int) then ab_ri h 33 (t : Int) else -1) else ab_ri h 33 (t : Int)) → mc_R l G mt_X7_keepFilling d (fun r' h' n' => n' = n ∧ r' = none ∧ ∃ h0 : ax_H, (∀ (k' : Nat) (i' : Int), k' ≠ 33 → ab_rd h0 k' i' = ab_rd h k' i') ∧ (∀ t : Nat, t < p → ab_ri h0 33 (t : Int) = if t < p then (if m = 0 then (F t : Int) else if ab_ri h 33 (t : Int) = (F t : Int) then ab_ri h 33 (t : Int) else -1) else ab_ri h 33 (t : Int)) ∧ mc_HW h' n ∧ ∀ (k' : Nat) (i' : Int), ab_rd h' k' i' = if k' = 28 ∧ i' = 6 then some (.int (Int32.ofInt ((m : Int) + 1))) else ab_rd h0 k' i') (97, [(0, .ref 28), (1, .int s), (2, .int i)], [], h2, n, 0, 0) := by
        intro h2 H2 f2 t2
        refine mc_cx hmi 2 (F' := (39, [(2, .int (i + Int32.ofInt 1)), (0, .ref 28), (1, .int s)], [], h2, n, 0, 0)) (by with_unfolding_all rfl) ?_
        have e119 : (i + Int32.ofInt 1).toInt = (j : Int) + 1 := mc_add hi (by decide) (by omega) (by omega)
        refine mc_lvs (lv' := [(0, .ref 28), (1, .int s), (2, .int (i + Int32.ofInt 1))]) (by simp) ?_
        exact ih (j + 1) h2 (i + Int32.ofInt 1) (by omega) (by rw [e119]; omega) H2 f2 t2
      have put : ∀ (h2 : ax_H) (v : Int32), v.toInt = (if m = 0 then (F j : Int) else if ab_ri h 33 (j : Int) = (F j : Int) then ab_ri h 33 (j : Int) else -1) → (∀ (k' : Nat) (i' : Int), ab_rd h2 k' i' = if k' = 33 ∧ i' = (j : Int) then some (.int v) else ab_rd h' k' i') → (∀ (k' : Nat) (i' : Int), k' ≠ 33 → ab_rd h2 k' i' = ab_rd h k' i') ∧ (∀ t : Nat, t < p → ab_ri h2 33 (t : Int) = if t < j + 1 then (if m = 0 then (F t : Int) else if ab_ri h 33 (t : Int) = (F t : Int) then ab_ri h 33 (t : Int) else -1) else ab_ri h 33 (t : Int)) := by
        intro h2 v hv hw
        refine ⟨fun k' i' hk => by rw [hw, if_neg (fun q => hk q.1)]; exact hfr k' i' hk, fun t ht => ?_⟩
        rw [mc_ri hw]
        by_cases q : t = j
        · subst q
          rw [if_pos ⟨rfl, rfl⟩, if_pos (Nat.lt_succ_self t), hv]
        · rw [if_neg (fun z => q (by have := z.2; omega)), hT t ht]
          by_cases u : t < j
          · rw [if_pos u, if_pos (show t < j + 1 by omega)]
          · rw [if_neg u, if_neg (show ¬ t < j + 1 by omega)]
      refine mc_cx hmi 1 (F' := (48, [(0, .ref 28), (1, .int s), (2, .int i)], [.ref 28], h', n, 0, 0)) (by with_unfolding_all rfl) ?_
      refine mc_geti hmi H' (k := 28) (j := 6) (pc' := 51) rfl rfl rfl rfl (fun y120 (e121 : y120.toInt = ab_ri h' 28 6) r122 r123 => ?_)
      rw [e121] at r122 r123
      rw [hml] at e121
      refine mc_cz hmi (c := .ne) (tg := 72) (pc' := 54) rfl rfl rfl e121 (fun (q124 : (m : Int) ≠ 0) => ?_) (fun (q124 : (m : Int) = 0) => ?_)
      · refine mc_cx hmi 1 (F' := (73, [(0, .ref 28), (1, .int s), (2, .int i)], [.ref 28], h', n, 0, 0)) (by with_unfolding_all rfl) ?_
        refine mc_getr hmi H' (k := 28) (c := 33) (pc' := 76) rfl rfl rfl rfl rfl ?_
        refine mc_cx hmi 1 (F' := (77, [(0, .ref 28), (1, .int s), (2, .int i)], [.int i, .ref 33], h', n, 0, 0)) (by with_unfolding_all rfl) ?_
        refine mc_iald hmi H' (k := 33) (i := (j : Int)) (pc' := 78) rfl rfl rfl hi (by omega) (by omega) rfl (fun y132 e133 r134 r135 => ?_)
        rw [e133] at r134 r135
        rw [hTj] at e133
        refine mc_cx hmi 1 (F' := (79, [(0, .ref 28), (1, .int s), (2, .int i)], [.ref 28, .int y132], h', n, 0, 0)) (by with_unfolding_all rfl) ?_
        refine mc_getr hmi H' (k := 28) (c := 30) (pc' := 82) rfl rfl rfl rfl rfl ?_
        refine mc_getr hmi H' (k := 30) (c := 31) (pc' := 85) rfl rfl rfl rfl rfl ?_
        refine mc_cx hmi 1 (F' := (86, [(0, .ref 28), (1, .int s), (2, .int i)], [.int i, .ref 31, .int y132], h', n, 0, 0)) (by with_unfolding_all rfl) ?_
        refine mc_iald hmi H' (k := 31) (i := (j : Int)) (pc' := 87) rfl rfl rfl hi (by omega) (by omega) rfl (fun y136 e137 r138 r139 => ?_)
        rw [e137] at r138 r139
        rw [hfl j (by omega)] at e137
        refine mc_ci hmi (c := .eq) (tg := 97) (pc' := 90) rfl rfl rfl e133 e137 (fun (q140 : ab_ri h 33 (j : Int) = (F j : Int)) => ?_) (fun (q140 : ab_ri h 33 (j : Int) ≠ (F j : Int)) => ?_)
        · refine fin h' H' hfr (fun t ht => ?_)
          rw [hT t ht]
          by_cases q : t = j
          · subst q
            rw [if_neg (Nat.lt_irrefl t), if_pos (Nat.lt_succ_self t), if_neg (show ¬ m = 0 by omega), if_pos q140]
          · by_cases u : t < j
            · rw [if_pos u, if_pos (show t < j + 1 by omega)]
            · rw [if_neg u, if_neg (show ¬ t < j + 1 by omega)]
        · refine mc_cx hmi 1 (F' := (91, [(0, .ref 28), (1, .int s), (2, .int i)], [.ref 28], h', n, 0, 0)) (by with_unfolding_all rfl) ?_
          refine mc_getr hmi H' (k := 28) (c := 33) (pc' := 94) rfl rfl rfl rfl rfl ?_
          refine mc_cx hmi 2 (F' := (96, [(0, .ref 28), (1, .int s), (2, .int i)], [.int (Int32.ofInt (-1)), .int i, .ref 33], h', n, 0, 0)) (by with_unfolding_all rfl) ?_
          refine mc_iast hmi H' (k := 33) (i := (j : Int)) (pc' := 97) rfl rfl rfl hi (by omega) (by omega) (by rw [show ((Int32.ofInt (-1))).toInt = (-1) from by decide]; omega) (by rw [show ((Int32.ofInt (-1))).toInt = (-1) from by decide]; omega) rfl (fun h141 H142 w143 => ?_)
          obtain ⟨f2, t2⟩ := put h141 _ (by rw [if_neg (by omega), if_neg q140]; decide) w143
          exact fin h141 H142 f2 t2
      · refine mc_cx hmi 1 (F' := (55, [(0, .ref 28), (1, .int s), (2, .int i)], [.ref 28], h', n, 0, 0)) (by with_unfolding_all rfl) ?_
        refine mc_getr hmi H' (k := 28) (c := 33) (pc' := 58) rfl rfl rfl rfl rfl ?_
        refine mc_cx hmi 2 (F' := (60, [(0, .ref 28), (1, .int s), (2, .int i)], [.ref 28, .int i, .ref 33], h', n, 0, 0)) (by with_unfolding_all rfl) ?_
        refine mc_getr hmi H' (k := 28) (c := 30) (pc' := 63) rfl rfl rfl rfl rfl ?_
        refine mc_getr hmi H' (k := 30) (c := 31) (pc' := 66) rfl rfl rfl rfl rfl ?_
        refine mc_cx hmi 1 (F' := (67, [(0, .ref 28), (1, .int s), (2, .int i)], [.int i, .ref 31, .int i, .ref 33], h', n, 0, 0)) (by with_unfolding_all rfl) ?_
        refine mc_iald hmi H' (k := 31) (i := (j : Int)) (pc' := 68) rfl rfl rfl hi (by omega) (by omega) rfl (fun y125 e126 r127 r128 => ?_)
        rw [e126] at r127 r128
        rw [hfl j (by omega)] at e126
        refine mc_iast hmi H' (k := 33) (i := (j : Int)) (pc' := 69) rfl rfl rfl hi (by omega) (by omega) (by rw [e126]; omega) (by rw [e126]; omega) rfl (fun h129 H130 w131 => ?_)
        refine mc_cx hmi 1 (F' := (97, [(0, .ref 28), (1, .int s), (2, .int i)], [], h129, n, 0, 0)) (by with_unfolding_all rfl) ?_
        obtain ⟨f2, t2⟩ := put h129 _ (by rw [if_pos (by omega)]; exact e126) w131
        exact fin h129 H130 f2 t2
set_option maxHeartbeats 4000000 in
set_option maxRecDepth 100000 in
theorem kf_ok {l : Launch} {G : ax_T} {d : Nat} {h : ax_H} {n : Nat} (hd : 3 ≤ d) (H : mc_HW h n) {w N : Nat} (hwn : w < n) (hk34 : ab_k w = 34) (hws : w ≠ 28 ∧ w ≠ 30 ∧ w ≠ 31 ∧ w ≠ 33) (w4 : ab_rd h 28 4 = some (.ref w)) (wl : ab_ri h w (-1) = (N : Int)) (hN : N ≤ 41160) {s : Int32} {size p m : Nat} (hs : s.toInt = (size : Int)) (hs1 : size ≤ 21) (hps : p ≤ size) (hp : ab_ri h 28 1 = (p : Int)) (hmN : m < N) {F : Nat → Nat} (hF : ∀ j : Nat, j < size → ab_ri h 31 (j : Int) = (F j : Int)) (hF1 : ∀ j, j < size → F j < 14) {D : fl_D} (S : CS h w m p D) : mc_M l G d mt_X7_keepFilling [.ref 28, .int s] h n (fun r' h' n' => n' = n ∧ r' = none ∧ mc_HW h' n ∧ CS h' w (m + 1) p (fl_1 D size F) ∧ (∀ (k' : Nat) (i' : Int), k' ≠ w → k' ≠ 33 → (k' = 30 → i' ≠ 1) → (k' = 28 → i' ≠ 6) → ab_rd h' k' i' = ab_rd h k' i') ∧ ab_ri h' w (-1) = (N : Int)) := by
  obtain ⟨d, rfl⟩ : ∃ e, d = e + 1 := ⟨d - 1, by omega⟩
  have hmi : mt_X7_keepFilling ∈ mt_prog := List.mem_of_getElem? mi_X7_keepFilling
  obtain ⟨hw28, hw30, hw31, hw33⟩ := hws
  have hm : ab_ri h 28 6 = (m : Int) := S.1
  refine mc_to hmi rfl ?_
  show mc_R _ _ _ _ _ (0, [(0, .ref 28), (1, .int s)], [], h, n, 0, 0)
  refine mc_cx hmi 1 (F' := (1, [(0, .ref 28), (1, .int s)], [.ref 28], h, n, 0, 0)) (by with_unfolding_all rfl) ?_
  refine mc_geti hmi H (k := 28) (j := 6) (pc' := 4) rfl rfl rfl rfl (fun y144 (e145 : y144.toInt = ab_ri h 28 6) r146 r147 => ?_)
  rw [e145] at r146 r147
  rw [hm] at e145
  refine mc_cx hmi 1 (F' := (5, [(0, .ref 28), (1, .int s)], [.ref 28, .int y144], h, n, 0, 0)) (by with_unfolding_all rfl) ?_
  refine mc_getrC hmi H (k := 28) (c := w) (j := 4) (pc' := 8) rfl rfl rfl w4 rfl ?_
  refine mc_walen hmi H hwn hk34 (pc' := 9) rfl rfl (fun y148 e149 => ?_)
  rw [wl] at e149
  refine mc_ci hmi (c := .lt) (tg := 13) (pc' := 12) rfl rfl rfl e145 e149 (fun (q150 : (m : Int) < (N : Int)) => ?_) (fun (q150 : (N : Int) ≤ (m : Int)) => ?_)
  · refine mc_cx hmi 1 (F' := (14, [(0, .ref 28), (1, .int s)], [.ref 28], h, n, 0, 0)) (by with_unfolding_all rfl) ?_
    refine mc_getr hmi H (k := 28) (c := 30) (pc' := 17) rfl rfl rfl rfl rfl ?_
    refine mc_cx hmi 1 (F' := (18, [(0, .ref 28), (1, .int s)], [.int s, .ref 30], h, n, 0, 0)) (by with_unfolding_all rfl) ?_
    refine mc_puti hmi H (k := 30) (j := 1) (pc' := 21) rfl rfl rfl rfl (by rw [hs]; omega) (by rw [hs]; omega) rfl (fun h151 H152 w153 => ?_)
    have w4154 : ab_rd h151 28 4 = some (.ref w) := by rw [w153, if_neg (fun q => by omega)]; exact w4
    have wl155 : ab_ri h151 w (-1) = (N : Int) := by rw [mc_ri w153, if_neg (fun q => by omega)]; exact wl
    have g1 := mc_ri w153
    refine mc_cx hmi 1 (F' := (22, [(0, .ref 28), (1, .int s)], [.ref 28], h151, n, 0, 0)) (by with_unfolding_all rfl) ?_
    refine mc_getrC hmi H152 (k := 28) (c := w) (j := 4) (pc' := 25) rfl rfl rfl w4154 rfl ?_
    refine mc_cx hmi 1 (F' := (26, [(0, .ref 28), (1, .int s)], [.ref 28, .ref w], h151, n, 0, 0)) (by with_unfolding_all rfl) ?_
    refine mc_geti hmi H152 (k := 28) (j := 6) (pc' := 29) rfl rfl rfl rfl (fun y156 (e157 : y156.toInt = ab_ri h151 28 6) r158 r159 => ?_)
    rw [e157] at r158 r159
    rw [g1, if_neg (fun q => absurd q.1 (by decide)), hm] at e157
    refine mc_cx hmi 1 (F' := (30, [(0, .ref 28), (1, .int s)], [.ref 28, .int y156, .ref w], h151, n, 0, 0)) (by with_unfolding_all rfl) ?_
    refine mc_getr hmi H152 (k := 28) (c := 30) (pc' := 33) rfl rfl rfl rfl rfl ?_
    have hFa : ∀ j : Nat, j < size → ab_ri h151 31 (j : Int) = (F j : Int) := fun j hj => by rw [g1, if_neg (fun q => absurd q.1 (by decide))]; exact hF j hj
    refine mc_callP hmi (en := (33, .invokevirtual 89, 3, (4, 60, 5, 0), [687, 14, 956])) rfl (q := (mt_X5_total, [.ref 30], [.int y156, .ref w])) (mc_inv H152 (as := []) (rest := [.int y156, .ref w]) rfl (by with_unfolding_all rfl) rfl rfl rfl) ⟨rfl, rfl⟩ (pc' := 36) rfl (ct_total (by omega) H152 (by rw [g1, if_pos ⟨rfl, rfl⟩]; exact hs) hs1 hFa hF1) (fun y160 e161 => ?_)
    refine mc_iwast hmi H152 hwn hk34 (i := (m : Int)) (pc' := 37) rfl e157 (by omega) (by rw [wl155]; omega) rfl (fun h162 H163 w164 => ?_)
    have w4165 : ab_rd h162 28 4 = some (.ref w) := by rw [w164, if_neg (fun q => by omega)]; exact w4154
    have wl166 : ab_ri h162 w (-1) = (N : Int) := by rw [mc_ri w164, if_neg (fun q => by omega)]; exact wl155
    have g2 := mc_ri w164
    refine mc_cx hmi 2 (F' := (39, [(2, .int (Int32.ofInt 0)), (0, .ref 28), (1, .int s)], [], h162, n, 0, 0)) (by with_unfolding_all rfl) ?_
    refine mc_lvs (lv' := [(0, .ref 28), (1, .int s), (2, .int (Int32.ofInt 0))]) (by simp) ?_
    have hFb : ∀ j : Nat, j < p → ab_ri h162 31 (j : Int) = (F j : Int) := fun j hj => by rw [g2, if_neg (fun q => hw31 q.1.symm)]; exact hFa j (by omega)
    have hpb : ab_ri h162 28 1 = (p : Int) := by rw [g2, if_neg (fun q => hw28 q.1.symm), g1, if_neg (fun q => absurd q.1 (by decide))]; exact hp
    have hmb : ab_ri h162 28 6 = (m : Int) := by rw [g2, if_neg (fun q => hw28 q.1.symm), g1, if_neg (fun q => absurd q.1 (by decide))]; exact hm
    obtain ⟨o, k1, k2, k3, k4, h0, k5, k6, k7, k8⟩ := kf_loop (l := l) (G := G) (d := d) H163 (s := s) hpb hmb (by omega) hFb (fun j hj => hF1 j (by omega)) p 0 h162 (Int32.ofInt 0) (by omega) (by decide) H163 (fun _ _ _ => rfl) (fun t ht => by rw [if_neg (Nat.not_lt_zero t)])
    have g8 : ∀ (k' : Nat) (i' : Int), ab_ri o.2.1 k' i' = if k' = 28 ∧ i' = 6 then (Int32.ofInt ((m : Int) + 1)).toInt else ab_ri h0 k' i' := mc_ri k8
    have e33 : ∀ t : Int, ab_ri h162 33 t = ab_ri h 33 t := fun t => by rw [g2, if_neg (fun q => hw33 q.1.symm), g1, if_neg (fun q => absurd q.1 (by decide))]
    refine ⟨o, k1, k2, k3, k4, k7, CS_1 hps hF1 S ?_ (fun i hi => ?_) (fun i hi => ?_), fun k' i' a b c e => ?_, ?_⟩
    · rw [g8, if_pos ⟨rfl, rfl⟩]; exact Int32.toInt_ofInt_of_le (by omega) (by omega)
    · rw [g8, if_neg (fun q => hw28 q.1), ab_ri_of (k5 w i hw33), g2]
      by_cases q : i = (m : Int)
      · rw [if_pos ⟨rfl, q⟩, if_pos q]; exact e161
      · rw [if_neg (fun z => q z.2), if_neg q, g1, if_neg (fun z => hw30 z.1)]
    · rw [g8, if_neg (fun q => absurd q.1 (by decide)), k6 i hi, if_pos hi, e33]
    · rw [k8, if_neg (fun q => e q.1 q.2), k5 k' i' b, w164, if_neg (fun q => a q.1), w153, if_neg (fun q => c q.1 q.2)]
    · rw [g8, if_neg (fun q => hw28 q.1), ab_ri_of (k5 w (-1) hw33)]; exact wl166
  · exact absurd q150 (by omega)
end
section
/-! ===== fillFrom of the class, exactly (ways printed by wip/v2/mk99b.py) ===== -/
/-- the fillings of places place and on, behind the signs F -/
def fl_E (K : df_K) (p : Nat) (sg : Nat → Nat) (b : Prop) (place : Nat) (F : Nat → Nat) : fl_D := fun s g => fl_F K p sg b s g ∧ place ≤ s ∧ ∀ i, i < place → g i = F i
/-- those of them whose sign at place is less than v -/
def fl_V (K : df_K) (p : Nat) (sg : Nat → Nat) (b : Prop) (place : Nat) (F : Nat → Nat) (v : Nat) : fl_D := fun s g => fl_F K p sg b s g ∧ place + 1 ≤ s ∧ (∀ i, i < place → g i = F i) ∧ g place < v
def fl_U (F : Nat → Nat) (place v i : Nat) : Nat := if i = place then v else F i
/-- how many fillings there may be behind the first places (c: places left) -/
def fl_C (p R : Nat) (sg : Nat → Nat) : Nat → Nat
  | 0 => 1
  | c + 1 => (if p ≤ R - (c + 1) then 1 else 0) + (if p ≤ R - (c + 1) ∨ sg (R - (c + 1)) = 14 then 14 else 1) * fl_C p R sg c
def dw_Kf (w cu c0 c1 c2 : Nat) : Prop := ∀ k', k' = cu ∨ k' = c0 ∨ k' = c1 ∨ k' = c2 → k' ≠ w ∧ k' ≠ 33 ∧ k' ≠ 30 ∧ k' ≠ 31 ∧ k' ≠ 28
theorem dw_K_fr {h h' : ax_H} {cu c0 c1 c2 : Nat} {K : df_K} (e : ∀ (k' : Nat) (i' : Int), k' = cu ∨ k' = c0 ∨ k' = c1 ∨ k' = c2 → ab_rd h' k' i' = ab_rd h k' i') (hK : dw_K h cu c0 c1 c2 K) : dw_K h' cu c0 c1 c2 K := by
  obtain ⟨⟨u1, u2, u3, u4, u5, u6, u7, u8⟩, ⟨τs, uk⟩, hk⟩ := hK
  refine ⟨⟨u1, u2, u3, u4, u5, (e cu 0 (Or.inl rfl)).trans u6, (e cu 1 (Or.inl rfl)).trans u7, (e cu 2 (Or.inl rfl)).trans u8⟩, ⟨τs, uk⟩, fun v hv => ?_⟩
  obtain ⟨a, b, c, d⟩ := hk v hv
  refine ⟨?_, b, fun i => ?_, fun i => ?_⟩
  · rw [ab_ri_of (e c0 _ (Or.inr (Or.inl rfl)))]; exact a
  · rw [ab_ri_of (e c1 _ (Or.inr (Or.inr (Or.inl rfl))))]; exact c i
  · rw [ab_ri_of (e c2 _ (Or.inr (Or.inr (Or.inr rfl))))]; exact d i
/-- where fillFrom runs: the stone, the worths' array, the custom -/
def FW_E (h : ax_H) (w N p R : Nat) (sg : Nat → Nat) (cu c0 c1 c2 : Nat) (K : df_K) : Prop := ab_rd h 28 4 = some (.ref w) ∧ ab_ri h w (-1) = (N : Int) ∧ ab_ri h 28 1 = (p : Int) ∧ ab_ri h 28 2 = (R : Int) ∧ (∀ i : Nat, i < R → ab_ri h 29 (i : Int) = if p ≤ i then 14 else (sg i : Int)) ∧ dw_K h cu c0 c1 c2 K
theorem FW_E_fr {h h' : ax_H} {w N p R : Nat} {sg : Nat → Nat} {cu c0 c1 c2 : Nat} {K : df_K} (hc : dw_Kf w cu c0 c1 c2) (hw29 : w ≠ 29) (e : ∀ (k' : Nat) (i' : Int), k' ≠ w → k' ≠ 33 → k' ≠ 30 → k' ≠ 31 → (k' = 28 → i' ≠ 6) → ab_rd h' k' i' = ab_rd h k' i') (hw28 : w ≠ 28) (el : ab_ri h' w (-1) = ab_ri h w (-1)) (E : FW_E h w N p R sg cu c0 c1 c2 K) : FW_E h' w N p R sg cu c0 c1 c2 K := by
  obtain ⟨a1, a2, a3, a4, a5, a6⟩ := E
  refine ⟨(e 28 4 (by omega) (by decide) (by decide) (by decide) (by decide)).trans a1, el.trans a2, (ab_ri_of (e 28 1 (by omega) (by decide) (by decide) (by decide) (by decide))).trans a3, (ab_ri_of (e 28 2 (by omega) (by decide) (by decide) (by decide) (by decide))).trans a4, fun i hi => (ab_ri_of (e 29 (i : Int) (by omega) (by decide) (by decide) (by decide) (fun z => absurd z (by decide)))).trans (a5 i hi), dw_K_fr (fun k' i' hk => ?_) a6⟩
  obtain ⟨b1, b2, b3, b4, b5⟩ := hc k' hk
  exact e k' i' b1 b2 b3 b4 (fun z => absurd z b5)
section FE2
variable {D : fl_D} {K : df_K} {p R place : Nat} {sg F : Nat → Nat} {b : Prop}
/-- a whole one is kept -/
theorem fl_k1 (hb : R = p ∧ ¬ b ∨ R = p + 1 ∧ b) (hR : place ≤ R) (hp : p ≤ place) (hok : ∀ i, i < place → fl_ok p sg i (F i)) {S : df_T} (hS : df_rn K F place = some S) (hw : df_wh K S) (s : Nat) (g : Nat → Nat) : fl_1 D place F s g ↔ D s g ∨ (fl_F K p sg b s g ∧ s = place ∧ ∀ i, i < place → g i = F i) := by
  refine or_congr Iff.rfl ⟨fun ⟨e, z⟩ => ⟨⟨?_, ?_⟩, e, z⟩, fun z => z.2⟩
  · rcases hb with ⟨u1, -⟩ | ⟨u1, u2⟩
    · exact Or.inl (by omega)
    · by_cases q : s = p
      · exact Or.inl q
      · exact Or.inr ⟨u2, by omega⟩
  · rw [e]
    exact fl_A_cg (fun i hi => (z i hi).symm) ⟨hok, S, hS, hw⟩
theorem fl_k0 (h : p ≤ place → ∀ S, df_rn K F place = some S → ¬ df_wh K S) (hb : R = p ∧ ¬ b ∨ R = p + 1 ∧ b) (s : Nat) (g : Nat → Nat) : D s g ↔ D s g ∨ (fl_F K p sg b s g ∧ s = place ∧ ∀ i, i < place → g i = F i) := by
  refine ⟨Or.inl, fun z => z.elim id (fun ⟨⟨a1, _, S, a2, a3⟩, e, z⟩ => ?_)⟩
  subst e
  rw [df_cg s z] at a2
  exact absurd a3 (h (by omega) S a2)
theorem fl_v0 {v : Nat} (hR : place < R) (hb : R = p ∧ ¬ b ∨ R = p + 1 ∧ b) (hv : v = if p ≤ place ∨ sg place = 14 then 0 else sg place) (s : Nat) (g : Nat → Nat) : ¬ fl_V K p sg b place F v s g := by
  rintro ⟨⟨a1, a2, -⟩, e, -, q⟩
  have := a2 place (by omega)
  unfold fl_ok at this
  rw [hv] at q
  split at q <;> omega
theorem fl_v1 {v : Nat} (hR : place < R) (hb : R = p ∧ ¬ b ∨ R = p + 1 ∧ b) (hv : v = if p ≤ place ∨ sg place = 14 then 14 else sg place + 1) (s : Nat) (g : Nat → Nat) : fl_V K p sg b place F v s g ↔ fl_F K p sg b s g ∧ place + 1 ≤ s ∧ ∀ i, i < place → g i = F i := by
  refine ⟨fun z => ⟨z.1, z.2.1, z.2.2.1⟩, fun z => ⟨z.1, z.2.1, z.2.2, ?_⟩⟩
  have := z.1.2.1 place (by omega)
  unfold fl_ok at this
  rw [hv]
  split <;> omega
theorem fl_vs {v : Nat} (s : Nat) (g : Nat → Nat) : fl_V K p sg b place F (v + 1) s g ↔ fl_V K p sg b place F v s g ∨ fl_E K p sg b (place + 1) (fl_U F place v) s g := by
  constructor
  · rintro ⟨a, b', c, q⟩
    by_cases u : g place = v
    · refine Or.inr ⟨a, b', fun i hi => ?_⟩
      unfold fl_U
      by_cases e : i = place
      · rw [if_pos e, e]; exact u
      · rw [if_neg e]; exact c i (by omega)
    · exact Or.inl ⟨a, b', c, by omega⟩
  · rintro (⟨a, b', c, q⟩ | ⟨a, b', c⟩)
    · exact ⟨a, b', c, by omega⟩
    · refine ⟨a, b', fun i hi => ?_, ?_⟩
      · have := c i (by omega)
        unfold fl_U at this
        rw [if_neg (by omega)] at this
        exact this
      · have := c place (by omega)
        unfold fl_U at this
        rw [if_pos rfl] at this
        omega
theorem fl_e0 {v : Nat} (hd : df_rn K (fl_U F place v) (place + 1) = none) (s : Nat) (g : Nat → Nat) : ¬ fl_E K p sg b (place + 1) (fl_U F place v) s g := by
  rintro ⟨⟨-, -, S, a2, -⟩, e, z⟩
  obtain ⟨S2, b2⟩ := df_al (K := K) (f := g) (j := place + 1) (s - (place + 1)) (S := S) (by rw [show place + 1 + (s - (place + 1)) = s by omega]; exact a2)
  rw [df_cg (place + 1) z, hd] at b2
  cases b2
theorem fl_ue {v : Nat} (i : Nat) (hi : i < place) : fl_U F place v i = F i := by
  unfold fl_U
  rw [if_neg (by omega)]
theorem fl_up {v : Nat} : fl_U F place v place = v := by
  unfold fl_U
  rw [if_pos rfl]
/-- all that stand behind the first places -/
theorem fl_all (hb : R = p ∧ ¬ b ∨ R = p + 1 ∧ b) (s : Nat) (g : Nat → Nat) : (D s g ∨ (fl_F K p sg b s g ∧ s = place ∧ ∀ i, i < place → g i = F i)) ∨ (fl_F K p sg b s g ∧ place + 1 ≤ s ∧ ∀ i, i < place → g i = F i) ↔ D s g ∨ fl_E K p sg b place F s g := by
  constructor
  · rintro ((z | ⟨a, e, c⟩) | ⟨a, e, c⟩)
    · exact Or.inl z
    · exact Or.inr ⟨a, by omega, c⟩
    · exact Or.inr ⟨a, by omega, c⟩
  · rintro (z | ⟨a, e, c⟩)
    · exact Or.inl (Or.inl z)
    · by_cases u : s = place
      · exact Or.inl (Or.inr ⟨a, u, c⟩)
      · exact Or.inr ⟨a, by omega, c⟩
end FE2
end
