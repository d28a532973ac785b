/-! ===== by hand: fillAll, in the reference (ways printed by wip/hand/h_fillall.py) ===== -/
set_option maxRecDepth 100000 in
theorem nz_0 {f : Int → Int} : ∀ m : Nat, (∀ i : Nat, i < m → f (i : Int) = 0) → nz f m = 0
  | 0, _ => rfl
  | m + 1, e => by
    unfold nz
    rw [nz_0 m (fun i hi => e i (by omega)), if_pos (e m (by omega))]
set_option maxRecDepth 100000 in
theorem Pf_gc (h : ax_H) : ∀ j : Nat, (j : Int) ≤ ab_ri h 542 14 → Pf (fo h) j = 14 ^ (ab_gc h 554 j)
  | 0, _ => rfl
  | j + 1, hj => by
    have ih := Pf_gc h j (by omega)
    show Pf (fo h) j * (if fo h j then 14 else 1) = 14 ^ (ab_gc h 554 j + (if ab_ri h 554 (j : Int) = 14 then 1 else 0))
    have e1 : fo h j = decide (ab_ri h 554 (j : Int) = 14) := by
      unfold fo
      rw [decide_eq_false (show ¬ ab_ri h 542 14 ≤ (j : Int) by omega), Bool.false_or]
    rw [ih, e1]
    by_cases q : ab_ri h 554 (j : Int) = 14
    · rw [decide_eq_true q, if_pos rfl, if_pos q, Nat.pow_succ]
    · rw [decide_eq_false q, if_neg (show ¬ (false = true) by decide), if_neg q, Nat.mul_one, Nat.add_zero]
set_option maxRecDepth 100000 in
theorem pow3 {g : Nat} (h : g ≤ 3) : 14 ^ g = 1 ∨ 14 ^ g = 14 ∨ 14 ^ g = 196 ∨ 14 ^ g = 2744 := by
  have : g = 0 ∨ g = 1 ∨ g = 2 ∨ g = 3 := by omega
  rcases this with rfl | rfl | rfl | rfl
  · exact Or.inl rfl
  · exact Or.inr (Or.inl rfl)
  · exact Or.inr (Or.inr (Or.inl rfl))
  · exact Or.inr (Or.inr (Or.inr rfl))
set_option maxRecDepth 100000 in
theorem fa_1 {l : Launch} {G : ax_T} {d : Nat} {Q : Option Value → ax_H → Nat → Prop} {h : ax_H} {n : Nat} (k : Int32) (kk : ∀ h' : ax_H, mc_HW h' n → (∀ (k' : Nat) (i' : Int), k' ≠ 569 → ab_rd h' k' i' = ab_rd h k' i') → (∀ t : Nat, t < 131072 → ab_ri h' 569 (t : Int) = 0) → mc_R l G mt_X11_fillAll d Q (26, [(0, .ref 542), (1, .int k)], [], h', n, 0, 0)) : ∀ (c j : Nat) (h' : ax_H) (i : Int32), j + c = 131072 → i.toInt = (j : Int) → mc_HW h' n → (∀ (k' : Nat) (i' : Int), k' ≠ 569 → ab_rd h' k' i' = ab_rd h k' i') → (∀ t : Nat, t < j → ab_ri h' 569 (t : Int) = 0) → mc_R l G mt_X11_fillAll d Q (7, [(0, .ref 542), (1, .int k), (2, .int i)], [], h', n, 0, 0) := by
  have hmi : mt_X11_fillAll ∈ mt_prog := List.mem_of_getElem? mi_X11_fillAll
  intro c
  induction c with
  | zero =>
    intro j h' i hj hi H' hfr hz
    refine mc_cx hmi 2 (F' := (10, [(0, .ref 542), (1, .int k), (2, .int i)], [.int (Int32.ofInt 131072), .int i], h', n, 0, 0)) (by with_unfolding_all rfl) ?_
    refine mc_ci hmi (c := .ge) (tg := 26) (pc' := 13) rfl rfl rfl hi (by decide) (fun (q1 : 131072 ≤ (j : Int)) => ?_) (fun (q1 : (j : Int) < 131072) => ?_)
    · refine mc_lvs (lv' := [(0, .ref 542), (1, .int k)]) (by simp) ?_
      have e : j = 131072 := by omega
      rw [e] at hz
      exact kk h' H' hfr hz
    · exact absurd q1 (by omega)
  | succ c ih =>
    intro j h' i hj hi H' hfr hz
    refine mc_cx hmi 2 (F' := (10, [(0, .ref 542), (1, .int k), (2, .int i)], [.int (Int32.ofInt 131072), .int i], h', n, 0, 0)) (by with_unfolding_all rfl) ?_
    refine mc_ci hmi (c := .ge) (tg := 26) (pc' := 13) rfl rfl rfl hi (by decide) (fun (q2 : 131072 ≤ (j : Int)) => ?_) (fun (q2 : (j : Int) < 131072) => ?_)
    · exact absurd q2 (by omega)
    · refine mc_cx hmi 1 (F' := (14, [(0, .ref 542), (1, .int k), (2, .int i)], [.ref 542], h', n, 0, 0)) (by with_unfolding_all rfl) ?_
      refine mc_getr hmi H' (k := 542) (c := 569) (pc' := 17) rfl rfl rfl rfl rfl ?_
      refine mc_cx hmi 2 (F' := (19, [(0, .ref 542), (1, .int k), (2, .int i)], [.int (Int32.ofInt 0), .int i, .ref 569], h', n, 0, 0)) (by with_unfolding_all rfl) ?_
      refine mc_iast hmi H' (k := 569) (i := (j : Int)) (pc' := 20) rfl rfl rfl hi (by omega) (by omega) (by rw [show ((Int32.ofInt 0)).toInt = 0 from by decide]; omega) (by rw [show ((Int32.ofInt 0)).toInt = 0 from by decide]; omega) rfl (fun h3 H4 w5 => ?_)
      refine mc_cx hmi 2 (F' := (7, [(2, .int (i + Int32.ofInt 1)), (0, .ref 542), (1, .int k)], [], h3, n, 0, 0)) (by with_unfolding_all rfl) ?_
      have e6 : (i + Int32.ofInt 1).toInt = (j : Int) + 1 := mc_add hi (by decide) (by omega) (by omega)
      refine mc_lvs (lv' := [(0, .ref 542), (1, .int k), (2, .int (i + Int32.ofInt 1))]) (by simp) ?_
      refine ih (j + 1) h3 (i + Int32.ofInt 1) (by omega) (by rw [e6]; omega) H4 (fun k' i' hk => by rw [w5, if_neg (fun q => hk q.1)]; exact hfr k' i' hk) (fun t ht => ?_)
      rw [mc_ri w5]
      by_cases e : t = j
      · rw [if_pos ⟨rfl, by rw [e]⟩]; decide
      · rw [if_neg (fun q => by have := q.2; omega)]; exact hz t (by omega)
set_option maxRecDepth 100000 in
theorem fa_2 {l : Launch} {G : ax_T} {d : Nat} {Q : Option Value → ax_H → Nat → Prop} {h : ax_H} {n : Nat} (k : Int32) (kk : ∀ h' : ax_H, mc_HW h' n → (∀ (k' : Nat) (i' : Int), k' ≠ 570 → ab_rd h' k' i' = ab_rd h k' i') → (∀ t : Nat, t < 20 → ab_ri h' 570 (t : Int) = -1) → mc_R l G mt_X11_fillAll d Q (47, [(0, .ref 542), (1, .int k)], [], h', n, 0, 0)) : ∀ (c j : Nat) (h' : ax_H) (i : Int32), j + c = 20 → i.toInt = (j : Int) → mc_HW h' n → (∀ (k' : Nat) (i' : Int), k' ≠ 570 → ab_rd h' k' i' = ab_rd h k' i') → (∀ t : Nat, t < j → ab_ri h' 570 (t : Int) = -1) → mc_R l G mt_X11_fillAll d Q (28, [(0, .ref 542), (1, .int k), (2, .int i)], [], h', n, 0, 0) := by
  have hmi : mt_X11_fillAll ∈ mt_prog := List.mem_of_getElem? mi_X11_fillAll
  intro c
  induction c with
  | zero =>
    intro j h' i hj hi H' hfr hz
    refine mc_cx hmi 2 (F' := (31, [(0, .ref 542), (1, .int k), (2, .int i)], [.int (Int8.ofInt 20).toInt32, .int i], h', n, 0, 0)) (by with_unfolding_all rfl) ?_
    refine mc_ci hmi (c := .ge) (tg := 47) (pc' := 34) rfl rfl rfl hi (by decide) (fun (q7 : 20 ≤ (j : Int)) => ?_) (fun (q7 : (j : Int) < 20) => ?_)
    · refine mc_lvs (lv' := [(0, .ref 542), (1, .int k)]) (by simp) ?_
      have e : j = 20 := by omega
      rw [e] at hz
      exact kk h' H' hfr hz
    · exact absurd q7 (by omega)
  | succ c ih =>
    intro j h' i hj hi H' hfr hz
    refine mc_cx hmi 2 (F' := (31, [(0, .ref 542), (1, .int k), (2, .int i)], [.int (Int8.ofInt 20).toInt32, .int i], h', n, 0, 0)) (by with_unfolding_all rfl) ?_
    refine mc_ci hmi (c := .ge) (tg := 47) (pc' := 34) rfl rfl rfl hi (by decide) (fun (q8 : 20 ≤ (j : Int)) => ?_) (fun (q8 : (j : Int) < 20) => ?_)
    · exact absurd q8 (by omega)
    · refine mc_cx hmi 1 (F' := (35, [(0, .ref 542), (1, .int k), (2, .int i)], [.ref 542], h', n, 0, 0)) (by with_unfolding_all rfl) ?_
      refine mc_getr hmi H' (k := 542) (c := 570) (pc' := 38) rfl rfl rfl rfl rfl ?_
      refine mc_cx hmi 2 (F' := (40, [(0, .ref 542), (1, .int k), (2, .int i)], [.int (Int32.ofInt (-1)), .int i, .ref 570], h', n, 0, 0)) (by with_unfolding_all rfl) ?_
      refine mc_iast hmi H' (k := 570) (i := (j : Int)) (pc' := 41) rfl rfl rfl hi (by omega) (by omega) (by rw [show ((Int32.ofInt (-1))).toInt = (-1) from by decide]; omega) (by rw [show ((Int32.ofInt (-1))).toInt = (-1) from by decide]; omega) rfl (fun h9 H10 w11 => ?_)
      refine mc_cx hmi 2 (F' := (28, [(2, .int (i + Int32.ofInt 1)), (0, .ref 542), (1, .int k)], [], h9, n, 0, 0)) (by with_unfolding_all rfl) ?_
      have e12 : (i + Int32.ofInt 1).toInt = (j : Int) + 1 := mc_add hi (by decide) (by omega) (by omega)
      refine mc_lvs (lv' := [(0, .ref 542), (1, .int k), (2, .int (i + Int32.ofInt 1))]) (by simp) ?_
      refine ih (j + 1) h9 (i + Int32.ofInt 1) (by omega) (by rw [e12]; omega) H10 (fun k' i' hk => by rw [w11, if_neg (fun q => hk q.1)]; exact hfr k' i' hk) (fun t ht => ?_)
      rw [mc_ri w11]
      by_cases e : t = j
      · rw [if_pos ⟨rfl, by rw [e]⟩]; decide
      · rw [if_neg (fun q => by have := q.2; omega)]; exact hz t (by omega)
set_option maxRecDepth 100000 in
theorem mc_fillAll {l : Launch} {G : ax_T} {d : Nat} {h : ax_H} {n : Nat} (hd : 4 ≤ d) (H : mc_HW h n) (k : Int32) (hk0 : 0 ≤ k.toInt) (hk1 : k.toInt ≤ 5) (hp1 : 1 ≤ ab_ri h 542 14) (hg : ab_gc h 554 (ab_ri h 542 14).toNat ≤ 3) : mc_R l G mt_X11_fillAll d (fun r' h' n' => n' = n ∧ r' = none ∧ mc_HW h' n ∧ FRF h h') (0, [(0, .ref 542), (1, .int k)], [], h, n, 0, 0) := by
  have hmi : mt_X11_fillAll ∈ mt_prog := List.mem_of_getElem? mi_X11_fillAll
  have hp : 0 ≤ ab_ri h 542 14 ∧ ab_ri h 542 14 ≤ 20 := mc_frng H (k := 542) (j := 14) (ci := 11) rfl rfl
  obtain ⟨pl, hpl⟩ : ∃ pl : Nat, ab_ri h 542 14 = (pl : Int) := ⟨(ab_ri h 542 14).toNat, by omega⟩
  have hT1 : Pf (fo h) pl = 14 ^ (ab_gc h 554 pl) := Pf_gc h pl (by omega)
  rw [show (ab_ri h 542 14).toNat = pl by omega] at hg
  have hp3 := pow3 hg
  rw [← hT1] at hp3
  have hT2 : Pf (fo h) (pl + 1) = Pf (fo h) pl * 14 := by
    show Pf (fo h) pl * (if fo h pl then 14 else 1) = _
    rw [show fo h pl = true from by unfold fo; rw [decide_eq_true (by omega)]; rfl, if_pos rfl]
  have hps1 : psi (Pf (fo h) pl) (Pf (fo h) pl) ≤ 2744 := by unfold psi; split <;> omega
  have hps2 : psi (Pf (fo h) (pl + 1)) (Pf (fo h) (pl + 1)) ≤ 35868 := by unfold psi; rw [hT2]; split <;> (try split) <;> (try split) <;> omega
  refine mc_cx hmi 2 (F' := (2, [(0, .ref 542), (1, .int k)], [.int (Int32.ofInt 0), .ref 542], h, n, 0, 0)) (by with_unfolding_all rfl) ?_
  refine mc_puti hmi H (k := 542) (j := 37) (pc' := 5) rfl rfl rfl rfl (by rw [show ((Int32.ofInt 0)).toInt = 0 from by decide]; omega) (by rw [show ((Int32.ofInt 0)).toInt = 0 from by decide]; omega) rfl (fun h13 H14 w15 => ?_)
  have g0 := mc_ri w15
  have f0 : FRF h h13 := fun k' i' p1 p2 p3 p4 p5 => by rw [w15, if_neg (fun q => p5 q.1 q.2)]
  refine mc_cx hmi 2 (F' := (7, [(2, .int (Int32.ofInt 0)), (0, .ref 542), (1, .int k)], [], h13, n, 0, 0)) (by with_unfolding_all rfl) ?_
  refine mc_lvs (lv' := [(0, .ref 542), (1, .int k), (2, .int (Int32.ofInt 0))]) (by simp) ?_
  refine fa_1 (h := h13) k (fun h1 H1 f1 z1 => ?_) 131072 0 h13 _ (Nat.zero_add _) rfl H14 (fun _ _ _ => rfl) (fun t ht => absurd ht (Nat.not_lt_zero t))
  refine mc_cx hmi 2 (F' := (28, [(2, .int (Int32.ofInt 0)), (0, .ref 542), (1, .int k)], [], h1, n, 0, 0)) (by with_unfolding_all rfl) ?_
  refine mc_lvs (lv' := [(0, .ref 542), (1, .int k), (2, .int (Int32.ofInt 0))]) (by simp) ?_
  refine fa_2 (h := h1) k (fun h2 H2 f2 z2 => ?_) 20 0 h1 _ (Nat.zero_add _) rfl H1 (fun _ _ _ => rfl) (fun t ht => absurd ht (Nat.not_lt_zero t))
  have fA : FRF h h2 := fun k' i' p1 p2 p3 p4 p5 => (f2 k' i' p3).trans ((f1 k' i' p2).trans (f0 k' i' p1 p2 p3 p4 p5))
  have eS : ab_ri h2 542 37 = 0 := by rw [ab_ri_of (f2 542 37 (by decide)), ab_ri_of (f1 542 37 (by decide)), g0, if_pos ⟨rfl, rfl⟩]; rfl
  have eZ : nz (ab_ri h2 569) 131072 = 0 := nz_0 _ (fun t ht => by rw [ab_ri_of (f2 569 (t : Int) (by decide))]; exact z1 t ht)
  have eF : fo h2 = fo h := funext (FRF_fo fA)
  have eP : ab_ri h2 542 14 = (pl : Int) := by rw [ab_ri_of (fA 542 14 (by decide) (by decide) (by decide) (by decide) (by decide))]; exact hpl
  refine mc_cx hmi 3 (F' := (50, [(0, .ref 542), (1, .int k)], [.ref 542, .int k, .ref 542], h2, n, 0, 0)) (by with_unfolding_all rfl) ?_
  refine mc_geti hmi H2 (k := 542) (j := 14) (pc' := 53) rfl rfl rfl rfl (fun y16 (e17 : y16.toInt = ab_ri h2 542 14) r18 r19 => ?_)
  rw [e17] at r18 r19
  have ey : y16.toInt = (pl : Int) := by rw [e17]; exact eP
  refine mc_call hmi (en := (53, .invokevirtual 254, 3, (3, 206, 11, 0), [1490, 99, 1488])) rfl (q := (mt_X11_fillTo, [.ref 542, .int k, .int y16], [])) (mc_inv H2 (as := [.int k, .int y16]) (rest := []) rfl (by with_unfolding_all rfl) rfl rfl rfl) ⟨rfl, rfl⟩ (pc' := 56) rfl (mc_mono (mc_fillTo (by omega) H2 k y16 hk0 hk1 (N := pl) ey (by omega) (by omega) (by omega) (by rw [eZ]; omega) (by rw [eF]; omega)) ?_)
  intro r3 h3 n3 P3
  obtain ⟨e1, e2, H3, f3, s3, z3, b3⟩ := P3
  rw [e1, e2]
  show mc_R _ _ _ _ _ (56, [(0, .ref 542), (1, .int k)], [], h3, n, 0, 0)
  rw [eF, eS] at b3
  have fB : FRF h h3 := fA.trans f3
  refine mc_cx hmi 1 (F' := (57, [(0, .ref 542), (1, .int k)], [.ref 542], h3, n, 0, 0)) (by with_unfolding_all rfl) ?_
  refine mc_geti hmi H3 (k := 542) (j := 15) (pc' := 60) rfl rfl rfl rfl (fun y20 (e21 : y20.toInt = ab_ri h3 542 15) r22 r23 => ?_)
  rw [e21] at r22 r23
  refine mc_cz hmi (c := .eq) (tg := 74) (pc' := 63) rfl rfl rfl e21 (fun (q24 : ab_ri h3 542 15 = 0) => ?_) (fun (q24 : ab_ri h3 542 15 ≠ 0) => ?_)
  · exact mc_ret hmi rfl rfl rfl ⟨rfl, rfl, H3, fB⟩
  · have eF3 : fo h3 = fo h := funext (FRF_fo fB)
    have eP3 : ab_ri h3 542 14 = (pl : Int) := by rw [ab_ri_of (fB 542 14 (by decide) (by decide) (by decide) (by decide) (by decide))]; exact hpl
    refine mc_cx hmi 3 (F' := (66, [(0, .ref 542), (1, .int k)], [.ref 542, .int k, .ref 542], h3, n, 0, 0)) (by with_unfolding_all rfl) ?_
    refine mc_geti hmi H3 (k := 542) (j := 14) (pc' := 69) rfl rfl rfl rfl (fun y25 (e26 : y25.toInt = ab_ri h3 542 14) r27 r28 => ?_)
    rw [e26] at r27 r28
    refine mc_cx hmi 2 (F' := (71, [(0, .ref 542), (1, .int k)], [.int (y25 + (Int32.ofInt 1)), .int k, .ref 542], h3, n, 0, 0)) (by with_unfolding_all rfl) ?_
    have e29 : (y25 + (Int32.ofInt 1)).toInt = ab_ri h3 542 14 + 1 := mc_add e26 (by decide) (by omega) (by omega)
    have ex : (y25 + (Int32.ofInt 1)).toInt = ((pl + 1 : Nat) : Int) := by rw [e29, eP3]; rfl
    refine mc_call hmi (en := (71, .invokevirtual 254, 3, (3, 206, 11, 0), [1490, 99, 1488])) rfl (q := (mt_X11_fillTo, [.ref 542, .int k, .int (y25 + (Int32.ofInt 1))], [])) (mc_inv H3 (as := [.int k, .int (y25 + (Int32.ofInt 1))]) (rest := []) rfl (by with_unfolding_all rfl) rfl rfl rfl) ⟨rfl, rfl⟩ (pc' := 74) rfl (mc_mono (mc_fillTo (by omega) H3 k (y25 + (Int32.ofInt 1)) hk0 hk1 (N := pl + 1) ex (by omega) (by omega) (by omega) z3 (by rw [eF3]; omega)) ?_)
    intro r4 h4 n4 P4
    obtain ⟨e3, e4, H4, f4, s4, z4, b4⟩ := P4
    rw [e3, e4]
    show mc_R _ _ _ _ _ (74, [(0, .ref 542), (1, .int k)], [], h4, n, 0, 0)
    exact mc_ret hmi rfl rfl rfl ⟨rfl, rfl, H4, fB.trans f4⟩
set_option maxRecDepth 100000 in
theorem mc_toL {l : Launch} {G : ax_T} {mi : ax_MI} {d : Nat} {Q : Option Value → ax_H → Nat → Prop} {h : ax_H} {n : Nat} (hmi : mi ∈ mt_prog) {as : List Value} (hlen : (lg_sl as).length ≤ mi.2.2.2.1) {lv' : List (Nat × Value)} (hs : ∀ q ∈ lv', ax_look (lv_args 0 as) q.1 = some q.2) (hR : mc_R l G mi d Q (0, lv', [], h, n, 0, 0)) : mc_M l G (d + 1) mi as h n Q := by
  refine mc_to hmi (by simpa [Nat.ble_eq] using hlen) (mc_lvs (fun q hq => ?_) hR)
  have h1 := hs q hq
  unfold ax_look at h1
  obtain ⟨z, hz, e⟩ := Option.map_eq_some_iff.mp h1
  have h2 : z.1 = q.1 := by simpa using List.find?_some hz
  have : z = q := Prod.ext h2 e
  rw [← this]
  exact List.mem_of_find?_eq_some hz
set_option maxRecDepth 100000 in
theorem mc_mdE {M κ : Nat} {i : Int} {md : List (Nat × Int)} (hm : (M, (-2 : Int)) ∈ md) (hb : Nat.testBit M κ = true) (hi : 0 ≤ i) : ab_md md κ i = true := by
  refine List.any_eq_true.mpr ⟨_, hm, ?_⟩
  simp only [hb, decide_eq_true hi, Bool.true_and, decide_true, Bool.or_true]
-- lengths are what the kinds say
def mc_ex (k : Nat) : Bool := Nat.blt k 573 && (match ab_K[ab_k k]? with
  | some (.inl (_, N1, N2, _, _)) => Nat.beq N1 N2
  | some (.inr _) => true
  | none => false)
set_option maxRecDepth 100000 in
theorem mc_negrd {h h' : ax_H} {n n' k : Nat} {i : Int} (H : mc_HW h n) (H' : mc_HW h' n') (hk : mc_ex k = true) (hi : i < 0) : ab_rd h' k i = ab_rd h k i := by
  unfold mc_ex at hk
  rw [Bool.and_eq_true, Nat.blt_eq] at hk
  obtain ⟨hk1, hk⟩ := hk
  obtain ⟨x, S, a1, a2, a3⟩ := H.2.1 k (Nat.lt_of_lt_of_le hk1 H.1)
  obtain ⟨x', S', b1, b2, b3⟩ := H'.2.1 k (Nat.lt_of_lt_of_le hk1 H'.1)
  rw [a2] at b2
  cases b2
  rw [a2] at hk
  unfold ab_rd
  rw [a1, b1]
  rcases S with ⟨t, N1, N2, τ, σ⟩ | ⟨c, τs⟩
  · have hN : N1 = N2 := by simpa [Nat.beq_eq] using hk
    rcases x with ⟨t1, N, f | f⟩ | ⟨c1, fs⟩
    · rcases x' with ⟨t2, N', g | g⟩ | ⟨c2, gs⟩
      · have e1 := a3.2.2.1; have e2 := a3.2.2.2.1; have e3 := b3.2.2.1; have e4 := b3.2.2.2.1
        have : N = N' := by omega
        subst this
        simp only [decide_eq_true hi, cond_true]
      · exact absurd b3.2.1 (by have := a3.2.1; omega)
      · exact b3.elim
    · rcases x' with ⟨t2, N', g | g⟩ | ⟨c2, gs⟩
      · exact absurd b3.2.1 (by have := a3.2.1; omega)
      · have e1 := a3.2.2.2.1; have e2 := a3.2.2.2.2.1; have e3 := b3.2.2.2.1; have e4 := b3.2.2.2.2.1
        have : N = N' := by omega
        subst this
        simp only [decide_eq_true hi, cond_true]
      · exact b3.elim
    · exact a3.elim
  · rcases x with ⟨t1, N, f | f⟩ | ⟨c1, fs⟩
    · exact a3.elim
    · exact a3.elim
    · rcases x' with ⟨t2, N', g | g⟩ | ⟨c2, gs⟩
      · exact b3.elim
      · exact b3.elim
      · simp only [decide_eq_true hi, cond_true]
-- what the bounds speak of
set_option maxRecDepth 100000 in
theorem mc_J2 {h h' : ax_H} {n : Nat} (H : mc_HW h n) (e : ∀ (k : Nat) (i : Int), k = 28 ∨ k = 29 ∨ k = 554 ∨ (k = 542 ∧ i = 14) ∨ ab_k k = 34 → ab_rd h' k i = ab_rd h k i) (J : ab_J h) : ab_J h' := by
  obtain ⟨⟨j1, j2, j3⟩, j4, j5⟩ := J
  have r : ∀ (k : Nat) (i : Int), k = 28 ∨ k = 29 ∨ k = 554 ∨ (k = 542 ∧ i = 14) ∨ ab_k k = 34 → ab_ri h' k i = ab_ri h k i := fun k i q => ab_ri_of (e k i q)
  refine ⟨⟨?_, ?_, ?_⟩, ?_, fun w hw => ?_⟩
  · rw [r 28 1 (Or.inl rfl), ab_gc_of _ (fun i _ => e 29 i (Or.inr (Or.inl rfl)))]; exact j1
  · rw [r 28 1 (Or.inl rfl), r 28 2 (Or.inl rfl)]; exact j2
  · rw [r 28 1 (Or.inl rfl), r 28 2 (Or.inl rfl)]; exact j3
  · rw [r 542 14 (Or.inr (Or.inr (Or.inr (Or.inl ⟨rfl, rfl⟩)))), ab_gc_of _ (fun i _ => e 554 i (Or.inr (Or.inr (Or.inl rfl))))]; exact j4
  · rw [e 28 4 (Or.inl rfl)] at hw
    have := j5 w hw
    have hkw : ab_k w = 34 := by
      obtain ⟨fs, v, -, -, ⟨k', rfl, -, k2⟩, k3⟩ := mc_fld (k := 28) (j := 4) (ci := 7) (τ := .inr (some 17179869184)) H rfl rfl
      have : (some (Value.ref k') : Option Value) = some (.ref w) := k3.symm.trans hw
      cases this
      have := (Nat.testBit_two_pow (n := 34) (m := ab_k w)).symm.trans (show Nat.testBit (2 ^ 34) (ab_k w) = true from k2)
      have := of_decide_eq_true this
      omega
    rw [r 28 6 (Or.inl rfl), r 28 7 (Or.inl rfl), r w (-1) (Or.inr (Or.inr (Or.inr (Or.inr hkw))))]
    exact this
set_option maxRecDepth 100000 in
theorem fillAll_ok {l : Launch} {G : ax_T} : ab_QOk l G mt_prog cq_4 := by
  intro mi hmi d hd V as h n hlen hg
  have hm : mi = mt_X11_fillAll := Option.some.inj (hmi.symm.trans mi_X11_fillAll)
  subst hm
  have hin : mt_X11_fillAll ∈ mt_prog := List.mem_of_getElem? mi_X11_fillAll
  have hd' : 10 ≤ d := hd
  obtain ⟨d, rfl⟩ : ∃ d', d = d' + 1 := ⟨d - 1, by omega⟩
  obtain ⟨g1, -, g3, -, g5, -, -, g8, g9⟩ := hg
  have hH := g8.1
  obtain ⟨v0, q0, ⟨k, rfl, k1, k2, -⟩⟩ := g3.2 0 _ rfl
  obtain ⟨v1, q1, ⟨p, rfl, p1, p2, -⟩⟩ := g3.2 1 _ rfl
  obtain ⟨x0, a0, b0⟩ := g1 0 _ rfl
  obtain ⟨x1, a1, b1⟩ := g1 1 _ rfl
  have hpl : ab_rd h 542 14 = some (.int p) := by
    rcases g5 _ List.mem_cons_self with ⟨k', x, w, c1, c2, c3, c4⟩ | ⟨x, y, z, c1, -⟩
    · cases c1
      cases c2
      have : w = .int p := Option.some.inj (c3.symm.trans q1)
      subst this
      exact c4
    · cases c1
  have hpi : ab_ri h 542 14 = p.toInt := by unfold ab_ri; rw [hpl]
  cases b0
  have e1 : x1 = .int k := Option.some.inj (b1.symm.trans q0)
  subst e1
  have hW := mc_HW_of hH
  obtain ⟨o, m1, m2, m3, m4, m5⟩ := mc_toL (l := l) (G := G) hin hlen (lv' := [(0, .ref 542), (1, .int k)]) (List.forall_mem_cons.mpr ⟨a0, List.forall_mem_cons.mpr ⟨a1, fun q hq => nomatch hq⟩⟩) (mc_fillAll (l := l) (G := G) (d := d) (by omega) hW k k1 k2 (by rw [hpi]; exact p1) hH.2.2.1.2.1)
  have hJ : ab_J o.2.1 := mc_J2 hW (fun k i q => by
    by_cases hk : k = 568 ∨ k = 569 ∨ k = 570 ∨ k = 571
    · rcases hk with rfl | rfl | rfl | rfl <;> rcases q with q | q | q | q | q <;> first | (exact absurd q (by decide)) | (exact absurd q.1 (by decide))
    · refine m5 k i (fun z => hk (Or.inl z)) (fun z => hk (Or.inr (Or.inl z))) (fun z => hk (Or.inr (Or.inr (Or.inl z)))) (fun z => hk (Or.inr (Or.inr (Or.inr z)))) (fun z => ?_)
      subst z
      rcases q with q | q | q | q | q
      · exact absurd q (by decide)
      · exact absurd q (by decide)
      · exact absurd q (by decide)
      · rw [q.2]; decide
      · exact absurd q (by decide)) hH.2.2.1
  refine ⟨o, m1, _, List.mem_singleton.mpr rfl, V, 0, 0, fun k a hk => (by cases hk), ?_, ?_, fun q hq => (nomatch hq), fun q hq => (nomatch hq), fun q hq => (nomatch hq), ⟨rfl, rfl⟩, ⟨?_, fun k hk i hi => ?_, ?_⟩, g9⟩
  · rw [m3]; trivial
  · rw [m2]; exact g3
  · rw [m2]; exact mc_HT_of m4 hJ
  · by_cases hn : i < 0 ∧ (k = 568 ∨ k = 569 ∨ k = 570 ∨ k = 571)
    · refine mc_negrd hW m4 ?_ hn.1
      rcases hn.2 with rfl | rfl | rfl | rfl <;> rfl
    · have hmem : ((4533471823554859405148160, (-2 : Int)) : Nat × Int) ∈ cq_4.2.2.2.1 := List.mem_cons_self
      refine m5 k i (fun z => ?_) (fun z => ?_) (fun z => ?_) (fun z => ?_) (fun z z2 => ?_)
      · subst z
        have := mc_mdE hmem (κ := ab_k 568) (by decide +kernel) (i := i) (by omega)
        rw [this] at hi; cases hi
      · subst z
        have := mc_mdE hmem (κ := ab_k 569) (by decide +kernel) (i := i) (by omega)
        rw [this] at hi; cases hi
      · subst z
        have := mc_mdE hmem (κ := ab_k 570) (by decide +kernel) (i := i) (by omega)
        rw [this] at hi; cases hi
      · subst z
        have := mc_mdE hmem (κ := ab_k 571) (by decide +kernel) (i := i) (by omega)
        rw [this] at hi; cases hi
      · subst z z2
        have : ab_md cq_4.2.2.2.1 (ab_k 542) 37 = true := by decide +kernel
        rw [this] at hi; cases hi
  · rw [m2]; exact Nat.le_refl _
