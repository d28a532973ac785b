/-! ===== by hand: fillAll, in the reference (ways printed by wip/hand/h_say.py) ===== -/
/-- what say does -/
def SY (h h' : ax_H) (n : Nat) : Prop := mc_HW h' n ∧ ab_ri h 542 37 ≤ ab_ri h' 542 37 ∧ ab_ri h' 542 37 ≤ ab_ri h 542 37 + 1 ∧ (nz (ab_ri h' 569) 131072 : Int) ≤ nz (ab_ri h 569) 131072 + (ab_ri h' 542 37 - ab_ri h 542 37) ∧
  ∀ (k : Nat) (i : Int), k ≠ 568 → k ≠ 569 → (k = 542 → i ≠ 37) → ab_rd h' k i = ab_rd h k i
set_option maxRecDepth 100000 in
theorem sy_loop {l : Launch} {G : ax_T} {d : Nat} {h : ax_H} {n : Nat} (H : mc_HW h n) (w : Int32) {z : Int} (hz0 : 0 ≤ z) (hz1 : z < 131072) (hz : ab_ri h 569 z = 0) (kk : ∀ a : Int32, 0 ≤ a.toInt → a.toInt < 131072 → ab_ri h 569 a.toInt = 0 → mc_R l G mt_X11_say d (fun r' h' n' => n' = n ∧ r' = none ∧ SY h h' n) (47, [(0, .ref 542), (1, .int w), (2, .int a)], [], h, n, 0, 0)) : ∀ (c : Nat) (a : Int32), 0 ≤ a.toInt → a.toInt < 131072 → (c : Int) = (if a.toInt ≤ z then z - a.toInt else z + 131072 - a.toInt) → mc_R l G mt_X11_say d (fun r' h' n' => n' = n ∧ r' = none ∧ SY h h' n) (10, [(0, .ref 542), (1, .int w), (2, .int a)], [], h, n, 0, 0) := by
  have hmi : mt_X11_say ∈ mt_prog := List.mem_of_getElem? mi_X11_say
  intro c
  induction c with
  | zero =>
    intro a ha0 ha1 hc
    refine mc_cx hmi 1 (F' := (11, [(0, .ref 542), (1, .int w), (2, .int a)], [.ref 542], h, n, 0, 0)) (by with_unfolding_all rfl) ?_
    refine mc_getr hmi H (k := 542) (c := 569) (pc' := 14) rfl rfl rfl rfl rfl ?_
    refine mc_cx hmi 1 (F' := (15, [(0, .ref 542), (1, .int w), (2, .int a)], [.int a, .ref 569], h, n, 0, 0)) (by with_unfolding_all rfl) ?_
    refine mc_iald hmi H (k := 569) (i := a.toInt) (pc' := 16) rfl rfl rfl rfl (by omega) (by omega) rfl (fun y1 e2 r3 r4 => ?_)
    rw [e2] at r3 r4
    refine mc_cz hmi (c := .eq) (tg := 47) (pc' := 19) rfl rfl rfl e2 (fun (q5 : ab_ri h 569 (a.toInt) = 0) => ?_) (fun (q5 : ab_ri h 569 (a.toInt) ≠ 0) => ?_)
    · exact kk a ha0 ha1 q5
    · have e : a.toInt = z := by split at hc <;> omega
      rw [e] at q5
      exact absurd hz q5
  | succ c ih =>
    intro a ha0 ha1 hc
    refine mc_cx hmi 1 (F' := (11, [(0, .ref 542), (1, .int w), (2, .int a)], [.ref 542], h, n, 0, 0)) (by with_unfolding_all rfl) ?_
    refine mc_getr hmi H (k := 542) (c := 569) (pc' := 14) rfl rfl rfl rfl rfl ?_
    refine mc_cx hmi 1 (F' := (15, [(0, .ref 542), (1, .int w), (2, .int a)], [.int a, .ref 569], h, n, 0, 0)) (by with_unfolding_all rfl) ?_
    refine mc_iald hmi H (k := 569) (i := a.toInt) (pc' := 16) rfl rfl rfl rfl (by omega) (by omega) rfl (fun y6 e7 r8 r9 => ?_)
    rw [e7] at r8 r9
    refine mc_cz hmi (c := .eq) (tg := 47) (pc' := 19) rfl rfl rfl e7 (fun (q10 : ab_ri h 569 (a.toInt) = 0) => ?_) (fun (q10 : ab_ri h 569 (a.toInt) ≠ 0) => ?_)
    · exact kk a ha0 ha1 q10
    · have ne : a.toInt ≠ z := fun e => by rw [e] at q10; exact q10 hz
      refine mc_cx hmi 1 (F' := (20, [(0, .ref 542), (1, .int w), (2, .int a)], [.ref 542], h, n, 0, 0)) (by with_unfolding_all rfl) ?_
      refine mc_getr hmi H (k := 542) (c := 568) (pc' := 23) rfl rfl rfl rfl rfl ?_
      refine mc_cx hmi 1 (F' := (24, [(0, .ref 542), (1, .int w), (2, .int a)], [.ref 542, .ref 568], h, n, 0, 0)) (by with_unfolding_all rfl) ?_
      refine mc_getr hmi H (k := 542) (c := 569) (pc' := 27) rfl rfl rfl rfl rfl ?_
      refine mc_cx hmi 1 (F' := (28, [(0, .ref 542), (1, .int w), (2, .int a)], [.int a, .ref 569, .ref 568], h, n, 0, 0)) (by with_unfolding_all rfl) ?_
      refine mc_iald hmi H (k := 569) (i := a.toInt) (pc' := 29) rfl rfl rfl rfl (by omega) (by omega) rfl (fun y11 e12 r13 r14 => ?_)
      rw [e12] at r13 r14
      refine mc_cx hmi 2 (F' := (31, [(0, .ref 542), (1, .int w), (2, .int a)], [.int (y11 - (Int32.ofInt 1)), .ref 568], h, n, 0, 0)) (by with_unfolding_all rfl) ?_
      have e15 : (y11 - (Int32.ofInt 1)).toInt = ab_ri h 569 (a.toInt) - 1 := mc_sub e12 (by decide) (by omega) (by omega)
      refine mc_iald hmi H (k := 568) (i := (ab_ri h 569 (a.toInt) - 1)) (pc' := 32) rfl rfl rfl e15 (by omega) (by omega) rfl (fun y16 e17 r18 r19 => ?_)
      rw [e17] at r18 r19
      refine mc_cx hmi 1 (F' := (33, [(0, .ref 542), (1, .int w), (2, .int a)], [.int w, .int y16], h, n, 0, 0)) (by with_unfolding_all rfl) ?_
      refine mc_ci hmi (c := .ne) (tg := 37) (pc' := 36) rfl rfl rfl e17 rfl (fun (q20 : ab_ri h 568 ((ab_ri h 569 (a.toInt) - 1)) ≠ w.toInt) => ?_) (fun (q20 : ab_ri h 568 ((ab_ri h 569 (a.toInt) - 1)) = w.toInt) => ?_)
      · refine mc_cx hmi 4 (F' := (42, [(0, .ref 542), (1, .int w), (2, .int a)], [.int (Int32.ofInt 131072), .int (a + (Int32.ofInt 1))], h, n, 0, 0)) (by with_unfolding_all rfl) ?_
        have e21 : (a + (Int32.ofInt 1)).toInt = a.toInt + 1 := mc_add rfl (by decide) (by omega) (by omega)
        have e22 : ((a + (Int32.ofInt 1)) - (a + (Int32.ofInt 1)) / (Int32.ofInt 131072) * (Int32.ofInt 131072)).toInt = (a.toInt + 1) % 131072 := mc_rem e21 (by decide) (by omega) (by omega)
        refine mc_irem hmi (pc' := 43) rfl (show ((Int32.ofInt 131072)).toInt ≠ 0 from by decide) rfl ?_
        refine mc_cx hmi 2 (F' := (10, [(2, .int ((a + (Int32.ofInt 1)) - (a + (Int32.ofInt 1)) / (Int32.ofInt 131072) * (Int32.ofInt 131072))), (0, .ref 542), (1, .int w)], [], h, n, 0, 0)) (by with_unfolding_all rfl) ?_
        refine mc_lvs (lv' := [(0, .ref 542), (1, .int w), (2, .int ((a + (Int32.ofInt 1)) - (a + (Int32.ofInt 1)) / (Int32.ofInt 131072) * (Int32.ofInt 131072)))]) (by simp) ?_
        refine ih ((a + (Int32.ofInt 1)) - (a + (Int32.ofInt 1)) / (Int32.ofInt 131072) * (Int32.ofInt 131072)) (by rw [e22]; omega) (by rw [e22]; omega) ?_
        rw [e22]
        split at hc <;> split <;> omega
      · refine mc_ret hmi rfl rfl rfl ⟨rfl, rfl, H, Int.le_refl _, by omega, by omega, fun _ _ _ _ _ => rfl⟩
set_option maxRecDepth 100000 in
theorem mc_say {l : Launch} {G : ax_T} {d : Nat} {h : ax_H} {n : Nat} (hd : 1 ≤ d) (H : mc_HW h n) (w : Int32) (hs0 : 0 ≤ ab_ri h 542 37) (hs1 : ab_ri h 542 37 ≤ 39999) (hnz : (nz (ab_ri h 569) 131072 : Int) ≤ ab_ri h 542 37) : mc_M l G d mt_X11_say [.ref 542, .int w] h n (fun r' h' n' => n' = n ∧ r' = none ∧ SY h h' n) := by
  obtain ⟨d, rfl⟩ : ∃ e, d = e + 1 := ⟨d - 1, by omega⟩
  have hmi : mt_X11_say ∈ mt_prog := List.mem_of_getElem? mi_X11_say
  obtain ⟨z, hz1, hz⟩ := nz_free (f := ab_ri h 569) 131072 (by omega)
  refine mc_to hmi rfl ?_
  show mc_R _ _ _ _ _ (0, [(0, .ref 542), (1, .int w)], [], h, n, 0, 0)
  refine mc_cx hmi 6 (F' := (8, [(0, .ref 542), (1, .int w)], [.int (Int32.ofInt 131072), .int (((w * (Int32.ofInt 40503))).toUInt32 >>> (((Int32.ofInt 3)).toUInt32 &&& Int32.toUInt32 31)).toInt32], h, n, 0, 0)) (by with_unfolding_all rfl) ?_
  have hu : 0 ≤ ((((w * (Int32.ofInt 40503))).toUInt32 >>> (((Int32.ofInt 3)).toUInt32 &&& Int32.toUInt32 31)).toInt32).toInt := mc_us3 _
  have e23 : ((((w * (Int32.ofInt 40503))).toUInt32 >>> (((Int32.ofInt 3)).toUInt32 &&& Int32.toUInt32 31)).toInt32 - (((w * (Int32.ofInt 40503))).toUInt32 >>> (((Int32.ofInt 3)).toUInt32 &&& Int32.toUInt32 31)).toInt32 / (Int32.ofInt 131072) * (Int32.ofInt 131072)).toInt = ((((w * (Int32.ofInt 40503))).toUInt32 >>> (((Int32.ofInt 3)).toUInt32 &&& Int32.toUInt32 31)).toInt32).toInt % 131072 := mc_rem rfl (by decide) (by omega) (by omega)
  refine mc_irem hmi (pc' := 9) rfl (show ((Int32.ofInt 131072)).toInt ≠ 0 from by decide) rfl ?_
  refine mc_cx hmi 1 (F' := (10, [(2, .int ((((w * (Int32.ofInt 40503))).toUInt32 >>> (((Int32.ofInt 3)).toUInt32 &&& Int32.toUInt32 31)).toInt32 - (((w * (Int32.ofInt 40503))).toUInt32 >>> (((Int32.ofInt 3)).toUInt32 &&& Int32.toUInt32 31)).toInt32 / (Int32.ofInt 131072) * (Int32.ofInt 131072))), (0, .ref 542), (1, .int w)], [], h, n, 0, 0)) (by with_unfolding_all rfl) ?_
  refine mc_lvs (lv' := [(0, .ref 542), (1, .int w), (2, .int ((((w * (Int32.ofInt 40503))).toUInt32 >>> (((Int32.ofInt 3)).toUInt32 &&& Int32.toUInt32 31)).toInt32 - (((w * (Int32.ofInt 40503))).toUInt32 >>> (((Int32.ofInt 3)).toUInt32 &&& Int32.toUInt32 31)).toInt32 / (Int32.ofInt 131072) * (Int32.ofInt 131072)))]) (by simp) ?_
  refine sy_loop H w (z := (z : Int)) (by omega) (by omega) hz (fun a ha0 ha1 hz' => ?_) (if (((((w * (Int32.ofInt 40503))).toUInt32 >>> (((Int32.ofInt 3)).toUInt32 &&& Int32.toUInt32 31)).toInt32 - (((w * (Int32.ofInt 40503))).toUInt32 >>> (((Int32.ofInt 3)).toUInt32 &&& Int32.toUInt32 31)).toInt32 / (Int32.ofInt 131072) * (Int32.ofInt 131072))).toInt ≤ (z : Int) then (z : Int) - (((((w * (Int32.ofInt 40503))).toUInt32 >>> (((Int32.ofInt 3)).toUInt32 &&& Int32.toUInt32 31)).toInt32 - (((w * (Int32.ofInt 40503))).toUInt32 >>> (((Int32.ofInt 3)).toUInt32 &&& Int32.toUInt32 31)).toInt32 / (Int32.ofInt 131072) * (Int32.ofInt 131072))).toInt else (z : Int) + 131072 - (((((w * (Int32.ofInt 40503))).toUInt32 >>> (((Int32.ofInt 3)).toUInt32 &&& Int32.toUInt32 31)).toInt32 - (((w * (Int32.ofInt 40503))).toUInt32 >>> (((Int32.ofInt 3)).toUInt32 &&& Int32.toUInt32 31)).toInt32 / (Int32.ofInt 131072) * (Int32.ofInt 131072))).toInt).toNat ((((w * (Int32.ofInt 40503))).toUInt32 >>> (((Int32.ofInt 3)).toUInt32 &&& Int32.toUInt32 31)).toInt32 - (((w * (Int32.ofInt 40503))).toUInt32 >>> (((Int32.ofInt 3)).toUInt32 &&& Int32.toUInt32 31)).toInt32 / (Int32.ofInt 131072) * (Int32.ofInt 131072)) (by rw [e23]; omega) (by rw [e23]; omega) (by rw [e23]; split <;> omega)
  refine mc_cx hmi 1 (F' := (48, [(0, .ref 542), (1, .int w), (2, .int a)], [.ref 542], h, n, 0, 0)) (by with_unfolding_all rfl) ?_
  refine mc_getr hmi H (k := 542) (c := 568) (pc' := 51) rfl rfl rfl rfl rfl ?_
  refine mc_cx hmi 1 (F' := (52, [(0, .ref 542), (1, .int w), (2, .int a)], [.ref 542, .ref 568], h, n, 0, 0)) (by with_unfolding_all rfl) ?_
  refine mc_geti hmi H (k := 542) (j := 37) (pc' := 55) rfl rfl rfl rfl (fun y24 (e25 : y24.toInt = ab_ri h 542 37) r26 r27 => ?_)
  rw [e25] at r26 r27
  refine mc_cx hmi 1 (F' := (56, [(0, .ref 542), (1, .int w), (2, .int a)], [.int w, .int y24, .ref 568], h, n, 0, 0)) (by with_unfolding_all rfl) ?_
  have b28 := Int32.le_toInt (w)
  have b29 := Int32.toInt_lt (w)
  refine mc_iast hmi H (k := 568) (i := ab_ri h 542 37) (pc' := 57) rfl rfl rfl e25 (by omega) (by omega) (by rw [show (w).toInt = w.toInt from rfl]; omega) (by rw [show (w).toInt = w.toInt from rfl]; omega) rfl (fun h30 H31 w32 => ?_)
  have g1 := mc_ri w32
  have c1 : ab_ri h30 542 37 = ab_ri h 542 37 := by rw [g1, if_neg (fun q => absurd q.1 (by decide))]
  refine mc_cx hmi 2 (F' := (59, [(0, .ref 542), (1, .int w), (2, .int a)], [.ref 542, .ref 542], h30, n, 0, 0)) (by with_unfolding_all rfl) ?_
  refine mc_geti hmi H31 (k := 542) (j := 37) (pc' := 62) rfl rfl rfl rfl (fun y33 (e34 : y33.toInt = ab_ri h30 542 37) r35 r36 => ?_)
  rw [e34] at r35 r36
  refine mc_cx hmi 2 (F' := (64, [(0, .ref 542), (1, .int w), (2, .int a)], [.int (y33 + (Int32.ofInt 1)), .ref 542], h30, n, 0, 0)) (by with_unfolding_all rfl) ?_
  have e37 : (y33 + (Int32.ofInt 1)).toInt = ab_ri h30 542 37 + 1 := mc_add e34 (by decide) (by omega) (by omega)
  refine mc_puti hmi H31 (k := 542) (j := 37) (pc' := 67) rfl rfl rfl rfl (by rw [e37]; omega) (by rw [e37]; omega) rfl (fun h38 H39 w40 => ?_)
  have g2 := mc_ri w40
  have c2 : ab_ri h38 542 37 = ab_ri h30 542 37 + 1 := by rw [g2, if_pos ⟨rfl, rfl⟩]; omega
  refine mc_cx hmi 1 (F' := (68, [(0, .ref 542), (1, .int w), (2, .int a)], [.ref 542], h38, n, 0, 0)) (by with_unfolding_all rfl) ?_
  refine mc_getr hmi H39 (k := 542) (c := 569) (pc' := 71) rfl rfl rfl rfl rfl ?_
  refine mc_cx hmi 2 (F' := (73, [(0, .ref 542), (1, .int w), (2, .int a)], [.ref 542, .int a, .ref 569], h38, n, 0, 0)) (by with_unfolding_all rfl) ?_
  refine mc_geti hmi H39 (k := 542) (j := 37) (pc' := 76) rfl rfl rfl rfl (fun y41 (e42 : y41.toInt = ab_ri h38 542 37) r43 r44 => ?_)
  rw [e42] at r43 r44
  refine mc_iast hmi H39 (k := 569) (i := a.toInt) (pc' := 77) rfl rfl rfl rfl (by omega) (by omega) (by rw [e42]; omega) (by rw [e42]; omega) rfl (fun h45 H46 w47 => ?_)
  have g3 := mc_ri w47
  have eS : ab_ri h45 542 37 = ab_ri h 542 37 + 1 := by rw [g3, if_neg (fun q => absurd q.1 (by decide))]; omega
  have eN : nz (ab_ri h45 569) 131072 ≤ nz (ab_ri h 569) 131072 + 1 := by
    have := nz_set (f := ab_ri h 569) (g := ab_ri h45 569) (a := a.toInt) (fun i hi => by rw [g3, if_neg (fun q => hi q.2), g2, if_neg (fun q => absurd q.1 (by decide)), g1, if_neg (fun q => absurd q.1 (by decide))]) 131072
    split at this <;> omega
  refine mc_ret hmi rfl rfl rfl ⟨rfl, rfl, H46, by omega, by omega, by omega, fun k i k1 k2 k3 => ?_⟩
  rw [w47, if_neg (fun q => k2 q.1), w40, if_neg (fun q => k3 q.1 q.2), w32, if_neg (fun q => k1 q.1)]
set_option maxRecDepth 100000 in
theorem ta_loop {l : Launch} {G : ax_T} {d : Nat} {h : ax_H} {n : Nat} (H0 : mc_HW h n) (s : Int32) : ∀ (c j : Nat) (h' : ax_H) (i : Int32), (j : Int) + (c : Int) = ab_ri h 542 14 → i.toInt = (j : Int) → mc_HW h' n → (∀ (k' : Nat) (i' : Int), k' ≠ 570 → ab_rd h' k' i' = ab_rd h k' i') → mc_R l G mt_X11_take d (fun r' h' n' => n' = n ∧ r' = none ∧ mc_HW h' n ∧ (∀ (k' : Nat) (i' : Int), k' ≠ 570 → ab_rd h' k' i' = ab_rd h k' i')) (16, [(0, .ref 542), (1, .int s), (2, .int i)], [], h', n, 0, 0) := by
  have hmi : mt_X11_take ∈ mt_prog := List.mem_of_getElem? mi_X11_take
  have hp : 0 ≤ ab_ri h 542 14 ∧ ab_ri h 542 14 ≤ 20 := mc_frng H0 (k := 542) (j := 14) (ci := 11) rfl rfl
  intro c
  induction c with
  | zero =>
    intro j h' i hj hi H' hfr
    have hpl : ab_ri h' 542 14 = ab_ri h 542 14 := ab_ri_of (hfr 542 14 (by decide))
    refine mc_cx hmi 2 (F' := (18, [(0, .ref 542), (1, .int s), (2, .int i)], [.ref 542, .int i], h', n, 0, 0)) (by with_unfolding_all rfl) ?_
    refine mc_geti hmi H' (k := 542) (j := 14) (pc' := 21) rfl rfl rfl rfl (fun y48 (e49 : y48.toInt = ab_ri h' 542 14) r50 r51 => ?_)
    rw [e49] at r50 r51
    refine mc_ci hmi (c := .ge) (tg := 81) (pc' := 24) rfl rfl rfl hi e49 (fun (q52 : ab_ri h' 542 14 ≤ (j : Int)) => ?_) (fun (q52 : (j : Int) < ab_ri h' 542 14) => ?_)
    · exact mc_ret hmi rfl rfl rfl ⟨rfl, rfl, H', hfr⟩
    · exact absurd q52 (by omega)
  | succ c ih =>
    intro j h' i hj hi H' hfr
    have hpl : ab_ri h' 542 14 = ab_ri h 542 14 := ab_ri_of (hfr 542 14 (by decide))
    refine mc_cx hmi 2 (F' := (18, [(0, .ref 542), (1, .int s), (2, .int i)], [.ref 542, .int i], h', n, 0, 0)) (by with_unfolding_all rfl) ?_
    refine mc_geti hmi H' (k := 542) (j := 14) (pc' := 21) rfl rfl rfl rfl (fun y53 (e54 : y53.toInt = ab_ri h' 542 14) r55 r56 => ?_)
    rw [e54] at r55 r56
    refine mc_ci hmi (c := .ge) (tg := 81) (pc' := 24) rfl rfl rfl hi e54 (fun (q57 : ab_ri h' 542 14 ≤ (j : Int)) => ?_) (fun (q57 : (j : Int) < ab_ri h' 542 14) => ?_)
    · exact absurd q57 (by omega)
    · refine mc_cx hmi 1 (F' := (25, [(0, .ref 542), (1, .int s), (2, .int i)], [.ref 542], h', n, 0, 0)) (by with_unfolding_all rfl) ?_
      refine mc_getr hmi H' (k := 542) (c := 570) (pc' := 28) rfl rfl rfl rfl rfl ?_
      refine mc_cx hmi 2 (F' := (30, [(0, .ref 542), (1, .int s), (2, .int i)], [.ref 542, .int i, .ref 570], h', n, 0, 0)) (by with_unfolding_all rfl) ?_
      refine mc_getr hmi H' (k := 542) (c := 570) (pc' := 33) rfl rfl rfl rfl rfl ?_
      refine mc_cx hmi 1 (F' := (34, [(0, .ref 542), (1, .int s), (2, .int i)], [.int i, .ref 570, .int i, .ref 570], h', n, 0, 0)) (by with_unfolding_all rfl) ?_
      refine mc_iald hmi H' (k := 570) (i := (j : Int)) (pc' := 35) rfl rfl rfl hi (by omega) (by omega) rfl (fun y58 e59 r60 r61 => ?_)
      rw [e59] at r60 r61
      refine mc_cx hmi 1 (F' := (36, [(0, .ref 542), (1, .int s), (2, .int i)], [.int (Int32.ofInt (-1)), .int y58, .int i, .ref 570], h', n, 0, 0)) (by with_unfolding_all rfl) ?_
      have key : ∀ u : Int32, -1 ≤ u.toInt → u.toInt ≤ 14 → mc_R l G mt_X11_take d (fun r' h' n' => n' = n ∧ r' = none ∧ mc_HW h' n ∧ (∀ (k' : Nat) (i' : Int), k' ≠ 570 → ab_rd h' k' i' = ab_rd h k' i')) (74, [(0, .ref 542), (1, .int s), (2, .int i)], [.int u, .int i, .ref 570], h', n, 0, 0) := by
        intro u hu0 hu1
        have b62 := Int32.le_toInt (u)
        have b63 := Int32.toInt_lt (u)
        refine mc_iast hmi H' (k := 570) (i := (j : Int)) (pc' := 75) rfl rfl rfl hi (by omega) (by omega) (by rw [show (u).toInt = u.toInt from rfl]; omega) (by rw [show (u).toInt = u.toInt from rfl]; omega) rfl (fun h64 H65 w66 => ?_)
        refine mc_cx hmi 2 (F' := (16, [(2, .int (i + Int32.ofInt 1)), (0, .ref 542), (1, .int s)], [], h64, n, 0, 0)) (by with_unfolding_all rfl) ?_
        have e67 : (i + Int32.ofInt 1).toInt = (j : Int) + 1 := mc_add hi (by decide) (by omega) (by omega)
        refine mc_lvs (lv' := [(0, .ref 542), (1, .int s), (2, .int (i + Int32.ofInt 1))]) (by simp) ?_
        exact ih (j + 1) h64 (i + Int32.ofInt 1) (by omega) (by rw [e67]; omega) H65 (fun k' i' hk => by rw [w66, if_neg (fun q => hk q.1)]; exact hfr k' i' hk)
      refine mc_ci hmi (c := .ne) (tg := 48) (pc' := 39) rfl rfl rfl e59 (by decide) (fun (q68 : ab_ri h' 570 ((j : Int)) ≠ (-1)) => ?_) (fun (q68 : ab_ri h' 570 ((j : Int)) = (-1)) => ?_)
      · refine mc_cx hmi 1 (F' := (49, [(0, .ref 542), (1, .int s), (2, .int i)], [.ref 542, .int i, .ref 570], h', n, 0, 0)) (by with_unfolding_all rfl) ?_
        refine mc_getr hmi H' (k := 542) (c := 570) (pc' := 52) rfl rfl rfl rfl rfl ?_
        refine mc_cx hmi 1 (F' := (53, [(0, .ref 542), (1, .int s), (2, .int i)], [.int i, .ref 570, .int i, .ref 570], h', n, 0, 0)) (by with_unfolding_all rfl) ?_
        refine mc_iald hmi H' (k := 570) (i := (j : Int)) (pc' := 54) rfl rfl rfl hi (by omega) (by omega) rfl (fun y73 e74 r75 r76 => ?_)
        rw [e74] at r75 r76
        refine mc_cx hmi 1 (F' := (55, [(0, .ref 542), (1, .int s), (2, .int i)], [.ref 542, .int y73, .int i, .ref 570], h', n, 0, 0)) (by with_unfolding_all rfl) ?_
        refine mc_getr hmi H' (k := 542) (c := 571) (pc' := 58) rfl rfl rfl rfl rfl ?_
        refine mc_cx hmi 1 (F' := (59, [(0, .ref 542), (1, .int s), (2, .int i)], [.int i, .ref 571, .int y73, .int i, .ref 570], h', n, 0, 0)) (by with_unfolding_all rfl) ?_
        refine mc_iald hmi H' (k := 571) (i := (j : Int)) (pc' := 60) rfl rfl rfl hi (by omega) (by omega) rfl (fun y77 e78 r79 r80 => ?_)
        rw [e78] at r79 r80
        refine mc_ci hmi (c := .ne) (tg := 72) (pc' := 63) rfl rfl rfl e74 e78 (fun (q81 : ab_ri h' 570 ((j : Int)) ≠ ab_ri h' 571 ((j : Int))) => ?_) (fun (q81 : ab_ri h' 570 ((j : Int)) = ab_ri h' 571 ((j : Int))) => ?_)
        · refine mc_cx hmi 1 (F' := (74, [(0, .ref 542), (1, .int s), (2, .int i)], [.int (Int8.ofInt 14).toInt32, .int i, .ref 570], h', n, 0, 0)) (by with_unfolding_all rfl) ?_
          exact key _ (by rw [show ((Int8.ofInt 14).toInt32).toInt = 14 from by decide]; omega) (by rw [show ((Int8.ofInt 14).toInt32).toInt = 14 from by decide]; omega)
        · refine mc_cx hmi 1 (F' := (64, [(0, .ref 542), (1, .int s), (2, .int i)], [.ref 542, .int i, .ref 570], h', n, 0, 0)) (by with_unfolding_all rfl) ?_
          refine mc_getr hmi H' (k := 542) (c := 571) (pc' := 67) rfl rfl rfl rfl rfl ?_
          refine mc_cx hmi 1 (F' := (68, [(0, .ref 542), (1, .int s), (2, .int i)], [.int i, .ref 571, .int i, .ref 570], h', n, 0, 0)) (by with_unfolding_all rfl) ?_
          refine mc_iald hmi H' (k := 571) (i := (j : Int)) (pc' := 69) rfl rfl rfl hi (by omega) (by omega) rfl (fun y82 e83 r84 r85 => ?_)
          rw [e83] at r84 r85
          refine mc_cx hmi 1 (F' := (74, [(0, .ref 542), (1, .int s), (2, .int i)], [.int y82, .int i, .ref 570], h', n, 0, 0)) (by with_unfolding_all rfl) ?_
          exact key _ (by rw [e83]; omega) (by rw [e83]; omega)
      · refine mc_cx hmi 1 (F' := (40, [(0, .ref 542), (1, .int s), (2, .int i)], [.ref 542, .int i, .ref 570], h', n, 0, 0)) (by with_unfolding_all rfl) ?_
        refine mc_getr hmi H' (k := 542) (c := 571) (pc' := 43) rfl rfl rfl rfl rfl ?_
        refine mc_cx hmi 1 (F' := (44, [(0, .ref 542), (1, .int s), (2, .int i)], [.int i, .ref 571, .int i, .ref 570], h', n, 0, 0)) (by with_unfolding_all rfl) ?_
        refine mc_iald hmi H' (k := 571) (i := (j : Int)) (pc' := 45) rfl rfl rfl hi (by omega) (by omega) rfl (fun y69 e70 r71 r72 => ?_)
        rw [e70] at r71 r72
        refine mc_cx hmi 1 (F' := (74, [(0, .ref 542), (1, .int s), (2, .int i)], [.int y69, .int i, .ref 570], h', n, 0, 0)) (by with_unfolding_all rfl) ?_
        exact key _ (by rw [e70]; omega) (by rw [e70]; omega)
set_option maxRecDepth 100000 in
theorem mc_take {l : Launch} {G : ax_T} {d : Nat} {h : ax_H} {n : Nat} (hd : 3 ≤ d) (H : mc_HW h n) (s : Int32) (hs0 : 0 ≤ s.toInt) (hs : s.toInt ≤ 21) (h13 : ∀ j : Int, 0 ≤ j → j < s.toInt → ab_ri h 571 j ≤ 13) (hs1 : 0 ≤ ab_ri h 542 37) (hs2 : ab_ri h 542 37 ≤ 39999) (hnz : (nz (ab_ri h 569) 131072 : Int) ≤ ab_ri h 542 37) : mc_M l G d mt_X11_take [.ref 542, .int s] h n (fun r' h' n' => n' = n ∧ r' = none ∧ mc_HW h' n ∧ ab_ri h 542 37 ≤ ab_ri h' 542 37 ∧ ab_ri h' 542 37 ≤ ab_ri h 542 37 + 1 ∧ (nz (ab_ri h' 569) 131072 : Int) ≤ nz (ab_ri h 569) 131072 + (ab_ri h' 542 37 - ab_ri h 542 37) ∧ (∀ (k' : Nat) (i' : Int), k' ≠ 568 → k' ≠ 569 → k' ≠ 570 → (k' = 542 → i' ≠ 37) → ab_rd h' k' i' = ab_rd h k' i')) := by
  obtain ⟨d, rfl⟩ : ∃ e, d = e + 1 := ⟨d - 1, by omega⟩
  have hmi : mt_X11_take ∈ mt_prog := List.mem_of_getElem? mi_X11_take
  have hp : 0 ≤ ab_ri h 542 14 ∧ ab_ri h 542 14 ≤ 20 := mc_frng H (k := 542) (j := 14) (ci := 11) rfl rfl
  refine mc_to hmi rfl ?_
  show mc_R _ _ _ _ _ (0, [(0, .ref 542), (1, .int s)], [], h, n, 0, 0)
  refine mc_cx hmi 3 (F' := (3, [(0, .ref 542), (1, .int s)], [.ref 542, .ref 542, .ref 542], h, n, 0, 0)) (by with_unfolding_all rfl) ?_
  refine mc_getr hmi H (k := 542) (c := 571) (pc' := 6) rfl rfl rfl rfl rfl ?_
  refine mc_cx hmi 2 (F' := (8, [(0, .ref 542), (1, .int s)], [.int s, .int (Int32.ofInt 0), .ref 571, .ref 542, .ref 542], h, n, 0, 0)) (by with_unfolding_all rfl) ?_
  refine mc_callP hmi (en := (8, .invokevirtual 149, 3, (3, 166, 11, 0), [1326, 79, 1324])) rfl (q := (mt_X11_worthOf, [.ref 542, .ref 571, .int (Int32.ofInt 0), .int s], [.ref 542])) (mc_inv H (as := [.ref 571, .int (Int32.ofInt 0), .int s]) (rest := [.ref 542]) rfl (by with_unfolding_all rfl) rfl rfl rfl) ⟨rfl, rfl⟩ (pc' := 11) rfl (mc_worthOf (by omega) H (Int32.ofInt 0) s (by decide) hs0 hs h13) (fun y86 e87 => ?_)
  refine mc_call hmi (en := (11, .invokevirtual 269, 3, (3, 204, 11, 0), [1510, 104, 1508])) rfl (q := (mt_X11_say, [.ref 542, .int y86], [])) (mc_inv H (as := [.int y86]) (rest := []) rfl (by with_unfolding_all rfl) rfl rfl rfl) ⟨rfl, rfl⟩ (pc' := 14) rfl (mc_mono (mc_say (by omega) H y86 hs1 hs2 hnz) ?_)
  intro r1 h1 n1 P1
  obtain ⟨e1, e2, S1⟩ := P1
  rw [e1, e2]
  show mc_R _ _ _ _ _ (14, [(0, .ref 542), (1, .int s)], [], h1, n, 0, 0)
  refine mc_cx hmi 2 (F' := (16, [(2, .int (Int32.ofInt 0)), (0, .ref 542), (1, .int s)], [], h1, n, 0, 0)) (by with_unfolding_all rfl) ?_
  refine mc_lvs (lv' := [(0, .ref 542), (1, .int s), (2, .int (Int32.ofInt 0))]) (by simp) ?_
  have ep : ab_ri h1 542 14 = ab_ri h 542 14 := ab_ri_of (S1.2.2.2.2 542 14 (by decide) (by decide) (by omega))
  obtain ⟨o, k1, k2, k3, k4, k5, k6⟩ := ta_loop (l := l) (G := G) (d := d) (h := h1) S1.1 s (ab_ri h1 542 14).toNat 0 h1 (Int32.ofInt 0) (by omega) rfl S1.1 (fun _ _ _ => rfl)
  have es : ab_ri o.2.1 542 37 = ab_ri h1 542 37 := ab_ri_of (k6 542 37 (by decide))
  have en : nz (ab_ri o.2.1 569) 131072 = nz (ab_ri h1 569) 131072 := nz_of _ (fun i _ => ab_ri_of (k6 569 i (by decide)))
  refine ⟨o, k1, k2, k3, k4, k5, by rw [es]; exact S1.2.1, by rw [es]; exact S1.2.2.1, by rw [es, en]; exact S1.2.2.2.1, fun k' i' a b c e => ?_⟩
  rw [k6 k' i' c]; exact S1.2.2.2.2 k' i' a b e
def fo (h : ax_H) (j : Nat) : Bool := decide (ab_ri h 542 14 ≤ (j : Int)) || decide (ab_ri h 554 (j : Int) = 14)
set_option maxRecDepth 100000 in
theorem mc_isOpen {l : Launch} {G : ax_T} {d : Nat} {h : ax_H} {n : Nat} (hd : 1 ≤ d) (H : mc_HW h n) (a : Int32) {j : Nat} (ha : a.toInt = (j : Int)) : mc_M l G d mt_X11_isOpen [.ref 542, .int a] h n (mc_P h n fun y => y.toInt = (if fo h j then 1 else 0)) := by
  obtain ⟨d, rfl⟩ : ∃ e, d = e + 1 := ⟨d - 1, by omega⟩
  have hmi : mt_X11_isOpen ∈ mt_prog := List.mem_of_getElem? mi_X11_isOpen
  have hp : 0 ≤ ab_ri h 542 14 ∧ ab_ri h 542 14 ≤ 20 := mc_frng H (k := 542) (j := 14) (ci := 11) rfl rfl
  refine mc_to hmi rfl ?_
  show mc_R _ _ _ _ _ (0, [(0, .ref 542), (1, .int a)], [], h, n, 0, 0)
  refine mc_cx hmi 2 (F' := (2, [(0, .ref 542), (1, .int a)], [.ref 542, .int a], h, n, 0, 0)) (by with_unfolding_all rfl) ?_
  refine mc_geti hmi H (k := 542) (j := 14) (pc' := 5) rfl rfl rfl rfl (fun y88 (e89 : y88.toInt = ab_ri h 542 14) r90 r91 => ?_)
  rw [e89] at r90 r91
  refine mc_ci hmi (c := .ge) (tg := 19) (pc' := 8) rfl rfl rfl ha e89 (fun (q92 : ab_ri h 542 14 ≤ (j : Int)) => ?_) (fun (q92 : (j : Int) < ab_ri h 542 14) => ?_)
  · refine mc_cx hmi 2 (F' := (24, [(0, .ref 542), (1, .int a)], [.int (Int32.ofInt 1)], h, n, 0, 0)) (by with_unfolding_all rfl) ?_
    exact mc_ret hmi rfl rfl rfl ⟨rfl, rfl, _, rfl, by unfold fo; rw [decide_eq_true q92, Bool.true_or]; decide⟩
  · refine mc_cx hmi 1 (F' := (9, [(0, .ref 542), (1, .int a)], [.ref 542], h, n, 0, 0)) (by with_unfolding_all rfl) ?_
    refine mc_getr hmi H (k := 542) (c := 554) (pc' := 12) rfl rfl rfl rfl rfl ?_
    refine mc_cx hmi 1 (F' := (13, [(0, .ref 542), (1, .int a)], [.int a, .ref 554], h, n, 0, 0)) (by with_unfolding_all rfl) ?_
    refine mc_iald hmi H (k := 554) (i := (j : Int)) (pc' := 14) rfl rfl rfl ha (by omega) (by omega) rfl (fun y93 e94 r95 r96 => ?_)
    rw [e94] at r95 r96
    refine mc_cx hmi 1 (F' := (16, [(0, .ref 542), (1, .int a)], [.int (Int8.ofInt 14).toInt32, .int y93], h, n, 0, 0)) (by with_unfolding_all rfl) ?_
    refine mc_ci hmi (c := .ne) (tg := 23) (pc' := 19) rfl rfl rfl e94 (by decide) (fun (q97 : ab_ri h 554 ((j : Int)) ≠ 14) => ?_) (fun (q97 : ab_ri h 554 ((j : Int)) = 14) => ?_)
    · refine mc_cx hmi 1 (F' := (24, [(0, .ref 542), (1, .int a)], [.int (Int32.ofInt 0)], h, n, 0, 0)) (by with_unfolding_all rfl) ?_
      exact mc_ret hmi rfl rfl rfl ⟨rfl, rfl, _, rfl, by unfold fo; rw [decide_eq_false (show ¬ ab_ri h 542 14 ≤ (j : Int) by omega), decide_eq_false q97]; decide⟩
    · refine mc_cx hmi 2 (F' := (24, [(0, .ref 542), (1, .int a)], [.int (Int32.ofInt 1)], h, n, 0, 0)) (by with_unfolding_all rfl) ?_
      exact mc_ret hmi rfl rfl rfl ⟨rfl, rfl, _, rfl, by unfold fo; rw [decide_eq_true q97, Bool.or_true]; decide⟩
set_option maxRecDepth 100000 in
theorem mc_first {l : Launch} {G : ax_T} {d : Nat} {h : ax_H} {n : Nat} (hd : 2 ≤ d) (H : mc_HW h n) (a : Int32) {j : Nat} (ha : a.toInt = (j : Int)) : mc_M l G d mt_X11_first [.ref 542, .int a] h n (mc_P h n fun y => y.toInt = (if fo h j then 0 else ab_ri h 554 (j : Int))) := by
  obtain ⟨d, rfl⟩ : ∃ e, d = e + 1 := ⟨d - 1, by omega⟩
  have hmi : mt_X11_first ∈ mt_prog := List.mem_of_getElem? mi_X11_first
  have hp : 0 ≤ ab_ri h 542 14 ∧ ab_ri h 542 14 ≤ 20 := mc_frng H (k := 542) (j := 14) (ci := 11) rfl rfl
  refine mc_to hmi rfl ?_
  show mc_R _ _ _ _ _ (0, [(0, .ref 542), (1, .int a)], [], h, n, 0, 0)
  refine mc_cx hmi 2 (F' := (2, [(0, .ref 542), (1, .int a)], [.int a, .ref 542], h, n, 0, 0)) (by with_unfolding_all rfl) ?_
  refine mc_callP hmi (en := (2, .invokevirtual 266, 3, (3, 207, 11, 0), [1498, 101, 1496])) rfl (q := (mt_X11_isOpen, [.ref 542, .int a], [])) (mc_inv H (as := [.int a]) (rest := []) rfl (by with_unfolding_all rfl) rfl rfl rfl) ⟨rfl, rfl⟩ (pc' := 5) rfl (mc_isOpen (by omega) H a ha) (fun y98 e99 => ?_)
  cases ho : fo h j with
  | true =>
    rw [ho, if_pos rfl] at e99
    refine mc_cz hmi (c := .eq) (tg := 12) (pc' := 8) rfl rfl rfl rfl (fun (q100 : y98.toInt = 0) => ?_) (fun (q100 : y98.toInt ≠ 0) => ?_)
    · exact absurd q100 (by omega)
    · refine mc_cx hmi 2 (F' := (18, [(0, .ref 542), (1, .int a)], [.int (Int32.ofInt 0)], h, n, 0, 0)) (by with_unfolding_all rfl) ?_
      exact mc_ret hmi rfl rfl rfl ⟨rfl, rfl, _, rfl, by rw [if_pos rfl]; decide⟩
  | false =>
    rw [ho, if_neg (by decide)] at e99
    have hlt : (j : Int) < ab_ri h 542 14 := by
      unfold fo at ho; rw [Bool.or_eq_false_iff] at ho; have := of_decide_eq_false ho.1; omega
    refine mc_cz hmi (c := .eq) (tg := 12) (pc' := 8) rfl rfl rfl rfl (fun (q101 : y98.toInt = 0) => ?_) (fun (q101 : y98.toInt ≠ 0) => ?_)
    · refine mc_cx hmi 1 (F' := (13, [(0, .ref 542), (1, .int a)], [.ref 542], h, n, 0, 0)) (by with_unfolding_all rfl) ?_
      refine mc_getr hmi H (k := 542) (c := 554) (pc' := 16) rfl rfl rfl rfl rfl ?_
      refine mc_cx hmi 1 (F' := (17, [(0, .ref 542), (1, .int a)], [.int a, .ref 554], h, n, 0, 0)) (by with_unfolding_all rfl) ?_
      refine mc_iald hmi H (k := 554) (i := (j : Int)) (pc' := 18) rfl rfl rfl ha (by omega) (by omega) rfl (fun y102 e103 r104 r105 => ?_)
      rw [e103] at r104 r105
      exact mc_ret hmi rfl rfl rfl ⟨rfl, rfl, _, rfl, by rw [if_neg (by decide)]; exact e103⟩
    · exact absurd q101 (by omega)
set_option maxRecDepth 100000 in
theorem mc_after {l : Launch} {G : ax_T} {d : Nat} {h : ax_H} {n : Nat} (hd : 2 ≤ d) (H : mc_HW h n) (a : Int32) {j : Nat} (ha : a.toInt = (j : Int)) (hj : j < 21) : mc_M l G d mt_X11_after [.ref 542, .int a] h n (mc_P h n fun y => y.toInt = (if fo h j then ab_ri h 571 (j : Int) + 1 else 14)) := by
  obtain ⟨d, rfl⟩ : ∃ e, d = e + 1 := ⟨d - 1, by omega⟩
  have hmi : mt_X11_after ∈ mt_prog := List.mem_of_getElem? mi_X11_after
  refine mc_to hmi rfl ?_
  show mc_R _ _ _ _ _ (0, [(0, .ref 542), (1, .int a)], [], h, n, 0, 0)
  refine mc_cx hmi 2 (F' := (2, [(0, .ref 542), (1, .int a)], [.int a, .ref 542], h, n, 0, 0)) (by with_unfolding_all rfl) ?_
  refine mc_callP hmi (en := (2, .invokevirtual 266, 3, (3, 207, 11, 0), [1498, 101, 1496])) rfl (q := (mt_X11_isOpen, [.ref 542, .int a], [])) (mc_inv H (as := [.int a]) (rest := []) rfl (by with_unfolding_all rfl) rfl rfl rfl) ⟨rfl, rfl⟩ (pc' := 5) rfl (mc_isOpen (by omega) H a ha) (fun y106 e107 => ?_)
  cases ho : fo h j with
  | true =>
    rw [ho, if_pos rfl] at e107
    refine mc_cz hmi (c := .eq) (tg := 19) (pc' := 8) rfl rfl rfl rfl (fun (q108 : y106.toInt = 0) => ?_) (fun (q108 : y106.toInt ≠ 0) => ?_)
    · exact absurd q108 (by omega)
    · refine mc_cx hmi 1 (F' := (9, [(0, .ref 542), (1, .int a)], [.ref 542], h, n, 0, 0)) (by with_unfolding_all rfl) ?_
      refine mc_getr hmi H (k := 542) (c := 571) (pc' := 12) rfl rfl rfl rfl rfl ?_
      refine mc_cx hmi 1 (F' := (13, [(0, .ref 542), (1, .int a)], [.int a, .ref 571], h, n, 0, 0)) (by with_unfolding_all rfl) ?_
      refine mc_iald hmi H (k := 571) (i := (j : Int)) (pc' := 14) rfl rfl rfl ha (by omega) (by omega) rfl (fun y109 e110 r111 r112 => ?_)
      rw [e110] at r111 r112
      refine mc_cx hmi 3 (F' := (21, [(0, .ref 542), (1, .int a)], [.int (y109 + (Int32.ofInt 1))], h, n, 0, 0)) (by with_unfolding_all rfl) ?_
      have e113 : (y109 + (Int32.ofInt 1)).toInt = ab_ri h 571 ((j : Int)) + 1 := mc_add e110 (by decide) (by omega) (by omega)
      exact mc_ret hmi rfl rfl rfl ⟨rfl, rfl, _, rfl, by rw [if_pos rfl]; exact e113⟩
  | false =>
    rw [ho, if_neg (by decide)] at e107
    refine mc_cz hmi (c := .eq) (tg := 19) (pc' := 8) rfl rfl rfl rfl (fun (q114 : y106.toInt = 0) => ?_) (fun (q114 : y106.toInt ≠ 0) => ?_)
    · refine mc_cx hmi 1 (F' := (21, [(0, .ref 542), (1, .int a)], [.int (Int8.ofInt 14).toInt32], h, n, 0, 0)) (by with_unfolding_all rfl) ?_
      exact mc_ret hmi rfl rfl rfl ⟨rfl, rfl, _, rfl, by rw [if_neg (by decide)]; decide⟩
    · exact absurd q114 (by omega)
