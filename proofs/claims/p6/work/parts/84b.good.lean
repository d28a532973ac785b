/-! ===== the page as a custom's text: how many letters are good, whether it is one; in the class (ways printed by wip/v2/mk84b.py) ===== -/
/-- the state behind the first letters; -1: there is none -/
def pg_run (f : Int → Int) : Nat → Int
  | 0 => 0
  | j + 1 => if pg_run f j = -1 then -1 else pg_after (pg_run f j) (f (j : Int))
def pg_good (f : Int → Int) : Nat → Nat
  | 0 => 0
  | j + 1 => if pg_run f (j + 1) = -1 then pg_good f j else j + 1
def pg_wh (f : Int → Int) (L : Nat) : Prop := pg_run f L ≠ -1 ∧ (pg_run f L % 8 = 2 ∨ pg_run f L % 8 = 5 ∨ pg_run f L % 8 = 6)
theorem pg_run_r (f : Int → Int) : ∀ j : Nat, pg_run f j = -1 ∨ (0 ≤ pg_run f j ∧ pg_run f j ≤ 110 ∧ pg_run f j % 8 ≤ 6)
  | 0 => Or.inr ⟨Int.le_refl 0, (by decide : (0 : Int) ≤ 110), (by decide : (0 : Int) % 8 ≤ 6)⟩
  | j + 1 => by
    have ih := pg_run_r f j
    unfold pg_run
    split
    · exact Or.inl rfl
    · exact pg_after_r (by omega) (by omega)
theorem pg_run_dead (f : Int → Int) {j : Nat} (hj : pg_run f j = -1) : ∀ e : Nat, pg_run f (j + e) = -1
  | 0 => hj
  | e + 1 => by
    have := pg_run_dead f hj e
    show pg_run f (j + e + 1) = -1
    unfold pg_run
    rw [if_pos this]
theorem pg_good_dead (f : Int → Int) {j : Nat} (hj : pg_run f j ≠ -1) (hj1 : pg_run f (j + 1) = -1) : ∀ e : Nat, pg_good f (j + e) = j
  | 0 => by
    show pg_good f j = j
    match j, hj with
    | 0, _ => rfl
    | j + 1, hj => unfold pg_good; rw [if_neg hj]
  | e + 1 => by
    show pg_good f (j + e + 1) = j
    unfold pg_good
    rw [if_pos (by have := pg_run_dead f hj1 e; rw [show j + 1 + e = j + e + 1 by omega] at this; exact this)]
    exact pg_good_dead f hj hj1 e
theorem pg_good_all (f : Int → Int) {j : Nat} (hj : pg_run f j ≠ -1) : pg_good f j = j := by
  match j, hj with
  | 0, _ => rfl
  | j + 1, hj => unfold pg_good; rw [if_neg hj]
theorem pg_run_eq {f g : Int → Int} : ∀ j : Nat, (∀ t : Nat, t < j → f (t : Int) = g (t : Int)) → pg_run f j = pg_run g j
  | 0, _ => rfl
  | j + 1, e => by
    unfold pg_run
    rw [pg_run_eq j (fun t ht => e t (by omega)), e j (by omega)]
theorem pg_good_eq {f g : Int → Int} : ∀ j : Nat, (∀ t : Nat, t < j → f (t : Int) = g (t : Int)) → pg_good f j = pg_good g j
  | 0, _ => rfl
  | j + 1, e => by
    unfold pg_good
    rw [pg_run_eq (j + 1) e, pg_good_eq j (fun t ht => e t (by omega))]
set_option maxRecDepth 100000 in
theorem gl_loop {l : Launch} {G : ax_T} {d : Nat} {h : ax_H} {n : Nat} (hd : 10 ≤ d) (H : mc_HW h n) : ∀ (c j : Nat) (s i : Int32), (j : Int) + (c : Int) = ab_ri h 1 1 → i.toInt = (j : Int) → s.toInt = pg_run (ab_ri h 2) j → pg_run (ab_ri h 2) j ≠ -1 → mc_R l G mt_X6_goodLetters d (mc_P h n fun y => y.toInt = (pg_good (ab_ri h 2) (ab_ri h 1 1).toNat : Int)) (4, [(0, .ref 1), (1, .int s), (2, .int i)], [], h, n, 0, 0) := by
  have hmi : mt_X6_goodLetters ∈ mt_prog := List.mem_of_getElem? mi_X6_goodLetters
  have hlen : 0 ≤ ab_ri h 1 1 ∧ ab_ri h 1 1 ≤ 80 := mc_frng H (k := 1) (j := 1) (ci := 4) rfl rfl
  intro c
  induction c with
  | zero =>
    intro j s i hj hi hs hne
    have hr := pg_run_r (ab_ri h 2) j
    refine mc_cx hmi 2 (F' := (6, [(0, .ref 1), (1, .int s), (2, .int i)], [.ref 1, .int i], h, n, 0, 0)) (by with_unfolding_all rfl) ?_
    refine mc_geti hmi H (k := 1) (j := 1) (pc' := 9) rfl rfl rfl rfl (fun y101 (e102 : y101.toInt = ab_ri h 1 1) r103 r104 => ?_)
    rw [e102] at r103 r104
    refine mc_ci hmi (c := .ge) (tg := 36) (pc' := 12) rfl rfl rfl hi e102 (fun (q105 : ab_ri h 1 1 ≤ (j : Int)) => ?_) (fun (q105 : (j : Int) < ab_ri h 1 1) => ?_)
    · refine mc_cx hmi 1 (F' := (37, [(0, .ref 1), (1, .int s), (2, .int i)], [.ref 1], h, n, 0, 0)) (by with_unfolding_all rfl) ?_
      refine mc_geti hmi H (k := 1) (j := 1) (pc' := 40) rfl rfl rfl rfl (fun y106 (e107 : y106.toInt = ab_ri h 1 1) r108 r109 => ?_)
      rw [e107] at r108 r109
      refine mc_ret hmi rfl rfl rfl ⟨rfl, rfl, _, rfl, ?_⟩
      have e : (ab_ri h 1 1).toNat = j := by omega
      show y106.toInt = _
      rw [e, pg_good_all _ hne, e107]; omega
    · exact absurd q105 (by omega)
  | succ c ih =>
    intro j s i hj hi hs hne
    have hr := pg_run_r (ab_ri h 2) j
    refine mc_cx hmi 2 (F' := (6, [(0, .ref 1), (1, .int s), (2, .int i)], [.ref 1, .int i], h, n, 0, 0)) (by with_unfolding_all rfl) ?_
    refine mc_geti hmi H (k := 1) (j := 1) (pc' := 9) rfl rfl rfl rfl (fun y110 (e111 : y110.toInt = ab_ri h 1 1) r112 r113 => ?_)
    rw [e111] at r112 r113
    refine mc_ci hmi (c := .ge) (tg := 36) (pc' := 12) rfl rfl rfl hi e111 (fun (q114 : ab_ri h 1 1 ≤ (j : Int)) => ?_) (fun (q114 : (j : Int) < ab_ri h 1 1) => ?_)
    · exact absurd q114 (by omega)
    · refine mc_cx hmi 2 (F' := (14, [(0, .ref 1), (1, .int s), (2, .int i)], [.ref 1, .int s], h, n, 0, 0)) (by with_unfolding_all rfl) ?_
      refine mc_getr hmi H (k := 1) (c := 2) (pc' := 17) rfl rfl rfl rfl rfl ?_
      refine mc_cx hmi 1 (F' := (18, [(0, .ref 1), (1, .int s), (2, .int i)], [.int i, .ref 2, .int s], h, n, 0, 0)) (by with_unfolding_all rfl) ?_
      refine mc_iald hmi H (k := 2) (i := (j : Int)) (pc' := 19) rfl rfl rfl hi (by omega) (by omega) rfl (fun y115 e116 r117 r118 => ?_)
      rw [e116] at r117 r118
      have hx := mc_rng H (k := 2) (N := 80) (lo := 0) (hi := 255) rfl rfl (i := (j : Int)) (by omega) (by omega)
      refine mc_callP hmi (en := (19, .invokestatic 21, 3, (3, 67, 0, 0), [481, 480])) rfl (q := (mt_X6_after, [.int s, .int y115], [])) (by with_unfolding_all rfl) ⟨rfl, rfl⟩ (pc' := 22) rfl (mc_ruleAfter (by omega) s y115 (by omega) (by omega) (by omega) (by omega) (by omega)) (fun y119 e120 => ?_)
      have hst : y119.toInt = pg_run (ab_ri h 2) (j + 1) := by
        rw [e120, e116, hs]
        show _ = (if pg_run (ab_ri h 2) j = -1 then -1 else pg_after (pg_run (ab_ri h 2) j) ((ab_ri h 2) (j : Int)))
        rw [if_neg hne]
      refine mc_cx hmi 3 (F' := (25, [(1, .int y119), (0, .ref 1), (2, .int i)], [.int (Int32.ofInt (-1)), .int y119], h, n, 0, 0)) (by with_unfolding_all rfl) ?_
      refine mc_ci hmi (c := .ne) (tg := 30) (pc' := 28) rfl rfl rfl hst (by decide) (fun (q121 : pg_run (ab_ri h 2) (j + 1) ≠ (-1)) => ?_) (fun (q121 : pg_run (ab_ri h 2) (j + 1) = (-1)) => ?_)
      · refine mc_cx hmi 2 (F' := (4, [(2, .int (i + Int32.ofInt 1)), (1, .int y119), (0, .ref 1)], [], h, n, 0, 0)) (by with_unfolding_all rfl) ?_
        have e122 : (i + Int32.ofInt 1).toInt = (j : Int) + 1 := mc_add hi (by decide) (by omega) (by omega)
        refine mc_lvs (lv' := [(0, .ref 1), (1, .int y119), (2, .int (i + Int32.ofInt 1))]) (by simp) ?_
        exact ih (j + 1) y119 (i + Int32.ofInt 1) (by omega) (by rw [e122]; omega) hst q121
      · refine mc_cx hmi 1 (F' := (29, [(1, .int y119), (0, .ref 1), (2, .int i)], [.int i], h, n, 0, 0)) (by with_unfolding_all rfl) ?_
        refine mc_ret hmi rfl rfl rfl ⟨rfl, rfl, _, rfl, ?_⟩
        have e := pg_good_dead (ab_ri h 2) hne q121 ((ab_ri h 1 1).toNat - j)
        rw [show j + ((ab_ri h 1 1).toNat - j) = (ab_ri h 1 1).toNat by omega] at e
        rw [e]; exact hi
set_option maxRecDepth 100000 in
theorem mc_goodLetters {l : Launch} {G : ax_T} {d : Nat} {h : ax_H} {n : Nat} (hd : 11 ≤ d) (H : mc_HW h n) : mc_M l G d mt_X6_goodLetters [.ref 1] h n (mc_P h n fun y => y.toInt = (pg_good (ab_ri h 2) (ab_ri h 1 1).toNat : Int)) := by
  obtain ⟨d, rfl⟩ : ∃ e, d = e + 1 := ⟨d - 1, by omega⟩
  have hmi : mt_X6_goodLetters ∈ mt_prog := List.mem_of_getElem? mi_X6_goodLetters
  refine mc_to hmi rfl ?_
  show mc_R _ _ _ _ _ (0, [(0, .ref 1)], [], h, n, 0, 0)
  have hlen : 0 ≤ ab_ri h 1 1 ∧ ab_ri h 1 1 ≤ 80 := mc_frng H (k := 1) (j := 1) (ci := 4) rfl rfl
  refine mc_cx hmi 4 (F' := (4, [(2, .int (Int32.ofInt 0)), (1, .int (Int32.ofInt 0)), (0, .ref 1)], [], h, n, 0, 0)) (by with_unfolding_all rfl) ?_
  refine mc_lvs (lv' := [(0, .ref 1), (1, .int (Int32.ofInt 0)), (2, .int (Int32.ofInt 0))]) (by simp) ?_
  exact gl_loop (by omega) H (ab_ri h 1 1).toNat 0 _ _ (by omega) rfl rfl (show (0 : Int) ≠ -1 by decide)
set_option maxRecDepth 100000 in
theorem iw_end {l : Launch} {G : ax_T} {d : Nat} {h : ax_H} {n : Nat} (hd : 10 ≤ d) (H : mc_HW h n) (s i : Int32) (hs : s.toInt = pg_run (ab_ri h 2) (ab_ri h 1 1).toNat) : mc_R l G mt_X6_isWhole d (mc_P h n fun y => y.toInt = 1 ∧ pg_wh (ab_ri h 2) (ab_ri h 1 1).toNat ∨ y.toInt = 0 ∧ ¬ pg_wh (ab_ri h 2) (ab_ri h 1 1).toNat) (34, [(0, .ref 1), (1, .int s), (2, .int i)], [], h, n, 0, 0) := by
  have hmi : mt_X6_isWhole ∈ mt_prog := List.mem_of_getElem? mi_X6_isWhole
  have hr := pg_run_r (ab_ri h 2) (ab_ri h 1 1).toNat
  refine mc_cx hmi 2 (F' := (36, [(0, .ref 1), (1, .int s), (2, .int i)], [.int (Int32.ofInt (-1)), .int s], h, n, 0, 0)) (by with_unfolding_all rfl) ?_
  refine mc_ci hmi (c := .eq) (tg := 53) (pc' := 39) rfl rfl rfl hs (by decide) (fun (q123 : pg_run (ab_ri h 2) (ab_ri h 1 1).toNat = (-1)) => ?_) (fun (q123 : pg_run (ab_ri h 2) (ab_ri h 1 1).toNat ≠ (-1)) => ?_)
  · refine mc_cx hmi 1 (F' := (54, [(0, .ref 1), (1, .int s), (2, .int i)], [.int (Int32.ofInt 0)], h, n, 0, 0)) (by with_unfolding_all rfl) ?_
    exact mc_ret hmi rfl rfl (mc_rb (by decide)) ⟨rfl, rfl, _, rfl, Or.inr ⟨by decide, fun z => z.1 q123⟩⟩
  · refine mc_cx hmi 3 (F' := (43, [(0, .ref 1), (1, .int s), (2, .int i)], [.int (s &&& (Int8.ofInt 7).toInt32)], h, n, 0, 0)) (by with_unfolding_all rfl) ?_
    have hp := pg_and7 (x := s) (by omega) (by omega)
    rw [hs] at hp
    generalize (s &&& (Int8.ofInt 7).toInt32) = p at hp ⊢
    show mc_R _ _ _ _ _ (43, [(0, .ref 1), (1, .int s), (2, .int i)], [.int p], h, n, 0, 0)
    refine mc_callP hmi (en := (43, .invokestatic 25, 3, (3, 66, 0, 0), [484, 483])) rfl (q := (mt_X6_endsRule, [.int p], [])) (by with_unfolding_all rfl) ⟨rfl, rfl⟩ (pc' := 46) rfl (mc_ends (by omega) p) (fun y124 e125 => ?_)
    refine mc_cz hmi (c := .eq) (tg := 53) (pc' := 49) rfl rfl rfl rfl (fun (q126 : y124.toInt = 0) => ?_) (fun (q126 : y124.toInt ≠ 0) => ?_)
    · refine mc_cx hmi 1 (F' := (54, [(0, .ref 1), (1, .int s), (2, .int i)], [.int (Int32.ofInt 0)], h, n, 0, 0)) (by with_unfolding_all rfl) ?_
      exact mc_ret hmi rfl rfl (mc_rb (by decide)) ⟨rfl, rfl, _, rfl, Or.inr ⟨by decide, fun z => by rw [hp, if_pos z.2] at e125; omega⟩⟩
    · refine mc_cx hmi 2 (F' := (54, [(0, .ref 1), (1, .int s), (2, .int i)], [.int (Int32.ofInt 1)], h, n, 0, 0)) (by with_unfolding_all rfl) ?_
      refine mc_ret hmi rfl rfl (mc_rb (by decide)) ⟨rfl, rfl, _, rfl, Or.inl ⟨by decide, q123, Decidable.byContradiction fun z => ?_⟩⟩
      rw [hp, if_neg z] at e125
      exact q126 e125
set_option maxRecDepth 100000 in
theorem iw_loop {l : Launch} {G : ax_T} {d : Nat} {h : ax_H} {n : Nat} (hd : 10 ≤ d) (H : mc_HW h n) : ∀ (c j : Nat) (s i : Int32), (j : Int) + (c : Int) = ab_ri h 1 1 → i.toInt = (j : Int) → s.toInt = pg_run (ab_ri h 2) j → mc_R l G mt_X6_isWhole d (mc_P h n fun y => y.toInt = 1 ∧ pg_wh (ab_ri h 2) (ab_ri h 1 1).toNat ∨ y.toInt = 0 ∧ ¬ pg_wh (ab_ri h 2) (ab_ri h 1 1).toNat) (4, [(0, .ref 1), (1, .int s), (2, .int i)], [], h, n, 0, 0) := by
  have hmi : mt_X6_isWhole ∈ mt_prog := List.mem_of_getElem? mi_X6_isWhole
  have hlen : 0 ≤ ab_ri h 1 1 ∧ ab_ri h 1 1 ≤ 80 := mc_frng H (k := 1) (j := 1) (ci := 4) rfl rfl
  intro c
  induction c with
  | zero =>
    intro j s i hj hi hs
    have hr := pg_run_r (ab_ri h 2) j
    refine mc_cx hmi 2 (F' := (6, [(0, .ref 1), (1, .int s), (2, .int i)], [.ref 1, .int i], h, n, 0, 0)) (by with_unfolding_all rfl) ?_
    refine mc_geti hmi H (k := 1) (j := 1) (pc' := 9) rfl rfl rfl rfl (fun y127 (e128 : y127.toInt = ab_ri h 1 1) r129 r130 => ?_)
    rw [e128] at r129 r130
    refine mc_ci hmi (c := .ge) (tg := 34) (pc' := 12) rfl rfl rfl hi e128 (fun (q131 : ab_ri h 1 1 ≤ (j : Int)) => ?_) (fun (q131 : (j : Int) < ab_ri h 1 1) => ?_)
    · refine mc_lvs (lv' := [(0, .ref 1), (1, .int s), (2, .int i)]) (by simp) ?_
      exact iw_end hd H s i (by rw [hs, show (ab_ri h 1 1).toNat = j by omega])
    · exact absurd q131 (by omega)
  | succ c ih =>
    intro j s i hj hi hs
    have hr := pg_run_r (ab_ri h 2) j
    refine mc_cx hmi 2 (F' := (6, [(0, .ref 1), (1, .int s), (2, .int i)], [.ref 1, .int i], h, n, 0, 0)) (by with_unfolding_all rfl) ?_
    refine mc_geti hmi H (k := 1) (j := 1) (pc' := 9) rfl rfl rfl rfl (fun y132 (e133 : y132.toInt = ab_ri h 1 1) r134 r135 => ?_)
    rw [e133] at r134 r135
    refine mc_ci hmi (c := .ge) (tg := 34) (pc' := 12) rfl rfl rfl hi e133 (fun (q136 : ab_ri h 1 1 ≤ (j : Int)) => ?_) (fun (q136 : (j : Int) < ab_ri h 1 1) => ?_)
    · exact absurd q136 (by omega)
    · refine mc_cx hmi 2 (F' := (14, [(0, .ref 1), (1, .int s), (2, .int i)], [.int (Int32.ofInt (-1)), .int s], h, n, 0, 0)) (by with_unfolding_all rfl) ?_
      refine mc_ci hmi (c := .eq) (tg := 34) (pc' := 17) rfl rfl rfl hs (by decide) (fun (q137 : pg_run (ab_ri h 2) j = (-1)) => ?_) (fun (q137 : pg_run (ab_ri h 2) j ≠ (-1)) => ?_)
      · refine mc_lvs (lv' := [(0, .ref 1), (1, .int s), (2, .int i)]) (by simp) ?_
        have e := pg_run_dead (ab_ri h 2) q137 ((ab_ri h 1 1).toNat - j)
        rw [show j + ((ab_ri h 1 1).toNat - j) = (ab_ri h 1 1).toNat by omega] at e
        exact iw_end hd H s i (by rw [hs, e, q137])
      · refine mc_cx hmi 2 (F' := (19, [(0, .ref 1), (1, .int s), (2, .int i)], [.ref 1, .int s], h, n, 0, 0)) (by with_unfolding_all rfl) ?_
        refine mc_getr hmi H (k := 1) (c := 2) (pc' := 22) rfl rfl rfl rfl rfl ?_
        refine mc_cx hmi 1 (F' := (23, [(0, .ref 1), (1, .int s), (2, .int i)], [.int i, .ref 2, .int s], h, n, 0, 0)) (by with_unfolding_all rfl) ?_
        refine mc_iald hmi H (k := 2) (i := (j : Int)) (pc' := 24) rfl rfl rfl hi (by omega) (by omega) rfl (fun y138 e139 r140 r141 => ?_)
        rw [e139] at r140 r141
        have hx := mc_rng H (k := 2) (N := 80) (lo := 0) (hi := 255) rfl rfl (i := (j : Int)) (by omega) (by omega)
        refine mc_callP hmi (en := (24, .invokestatic 21, 3, (3, 67, 0, 0), [481, 480])) rfl (q := (mt_X6_after, [.int s, .int y138], [])) (by with_unfolding_all rfl) ⟨rfl, rfl⟩ (pc' := 27) rfl (mc_ruleAfter (by omega) s y138 (by omega) (by omega) (by omega) (by omega) (by omega)) (fun y142 e143 => ?_)
        have hst : y142.toInt = pg_run (ab_ri h 2) (j + 1) := by
          rw [e143, e139, hs]
          show _ = (if pg_run (ab_ri h 2) j = -1 then -1 else pg_after (pg_run (ab_ri h 2) j) ((ab_ri h 2) (j : Int)))
          rw [if_neg q137]
        refine mc_cx hmi 3 (F' := (4, [(2, .int (i + Int32.ofInt 1)), (1, .int y142), (0, .ref 1)], [], h, n, 0, 0)) (by with_unfolding_all rfl) ?_
        have e144 : (i + Int32.ofInt 1).toInt = (j : Int) + 1 := mc_add hi (by decide) (by omega) (by omega)
        refine mc_lvs (lv' := [(0, .ref 1), (1, .int y142), (2, .int (i + Int32.ofInt 1))]) (by simp) ?_
        exact ih (j + 1) y142 (i + Int32.ofInt 1) (by omega) (by rw [e144]; omega) hst
set_option maxRecDepth 100000 in
theorem mc_ruleWhole {l : Launch} {G : ax_T} {d : Nat} {h : ax_H} {n : Nat} (hd : 11 ≤ d) (H : mc_HW h n) : mc_M l G d mt_X6_isWhole [.ref 1] h n (mc_P h n fun y => y.toInt = 1 ∧ pg_wh (ab_ri h 2) (ab_ri h 1 1).toNat ∨ y.toInt = 0 ∧ ¬ pg_wh (ab_ri h 2) (ab_ri h 1 1).toNat) := by
  obtain ⟨d, rfl⟩ : ∃ e, d = e + 1 := ⟨d - 1, by omega⟩
  have hmi : mt_X6_isWhole ∈ mt_prog := List.mem_of_getElem? mi_X6_isWhole
  refine mc_to hmi rfl ?_
  show mc_R _ _ _ _ _ (0, [(0, .ref 1)], [], h, n, 0, 0)
  have hlen : 0 ≤ ab_ri h 1 1 ∧ ab_ri h 1 1 ≤ 80 := mc_frng H (k := 1) (j := 1) (ci := 4) rfl rfl
  refine mc_cx hmi 4 (F' := (4, [(2, .int (Int32.ofInt 0)), (1, .int (Int32.ofInt 0)), (0, .ref 1)], [], h, n, 0, 0)) (by with_unfolding_all rfl) ?_
  refine mc_lvs (lv' := [(0, .ref 1), (1, .int (Int32.ofInt 0)), (2, .int (Int32.ofInt 0))]) (by simp) ?_
  exact iw_loop (by omega) H (ab_ri h 1 1).toNat 0 _ _ (by omega) rfl rfl
set_option maxRecDepth 100000 in
theorem mc_good10 {l : Launch} {G : ax_T} {d : Nat} {h : ax_H} {n : Nat} (hd : 12 ≤ d) (H : mc_HW h n) : mc_M l G d mt_X10_good [.ref 0] h n (mc_P h n fun y => y.toInt = (pg_good (ab_ri h 2) (ab_ri h 1 1).toNat : Int)) := by
  obtain ⟨d, rfl⟩ : ∃ e, d = e + 1 := ⟨d - 1, by omega⟩
  have hmi : mt_X10_good ∈ mt_prog := List.mem_of_getElem? mi_X10_good
  refine mc_to hmi rfl ?_
  show mc_R _ _ _ _ _ (0, [(0, .ref 0)], [], h, n, 0, 0)
  refine mc_cx hmi 1 (F' := (1, [(0, .ref 0)], [.ref 0], h, n, 0, 0)) (by with_unfolding_all rfl) ?_
  refine mc_getr hmi H (k := 0) (c := 1) (pc' := 4) rfl rfl rfl rfl rfl ?_
  refine mc_callP hmi (en := (4, .invokestatic 86, 3, (4, 62, 0, 0), [478, 477])) rfl (q := (mt_X6_goodLetters, [.ref 1], [])) (by with_unfolding_all rfl) ⟨rfl, rfl⟩ (pc' := 7) rfl (mc_goodLetters (by omega) H) (fun y145 e146 => ?_)
  exact mc_ret hmi rfl rfl rfl ⟨rfl, rfl, _, rfl, e146⟩
