section
/-! ===== by hand: seek's contract, in the reference (ways printed by wip/hand/h_seek4.py) ===== -/
set_option maxRecDepth 100000 in
theorem mc_bound {l : Launch} {G : ax_T} {d : Nat} {h : ax_H} {n : Nat} (hd : 2 ≤ d) (H : ab_HT h n) (k : Int32) (hk0 : 0 ≤ k.toInt) (hk1 : k.toInt ≤ 5) : mc_M l G d mt_X11_bound [.ref 542, .int k] h n (fun r h' n' => r = none ∧ ab_HT h' n' ∧ n ≤ n' ∧ ab_fr hq_2.2.2.2.1 n h h') := by
  have hty : ab_ty n [.int k] [.inl (0, 5, 0)] := ⟨rfl, fun u τ hu => by
    cases u with
    | zero =>
      simp only [List.getElem?_cons_zero, Option.some.injEq] at hu
      subst hu
      exact ⟨.int k, rfl, k, rfl, hk0, hk1, trivial⟩
    | succ u => simp at hu⟩
  refine mc_mono (mc_con (hy_7 2 hq_2 (by decide) rfl) mi_X11_bound hd [.int k] [.ref 542, .int k] rfl (lv := ab_args [.inl (0, 5, 0)] 0 [av_k 542, av_s 0]) (Γ := [.inl (0, 5, 0)]) rfl (ab_args_ok hty 0 ⟨rfl, rfl, trivial⟩) hty H) ?_
  intro r h' n' hP
  obtain ⟨p1, p2, p3, P, p4, V', p5, p6⟩ := hP
  have : P = ([], [], [.inl (0, 5, 0)], [], [], [], 0, 0) := List.mem_singleton.mp p4
  subst this
  refine ⟨?_, p1, p2, p3⟩
  cases r with
  | none => rfl
  | some v => exact p6.elim
def QS (h : ax_H) (n : Nat) : Option Value → ax_H → Nat → Prop := fun r' h' n' => r' = none ∧ ∃ h1, ab_HT h1 n' ∧ n ≤ n' ∧ ab_fr hq_2.2.2.2.1 n h h1 ∧ mc_HW h' n' ∧ FRS h1 h'
set_option maxRecDepth 100000 in
theorem mc_seek {l : Launch} {G : ax_T} {d : Nat} {h : ax_H} {n : Nat} (hd : 4 ≤ d) (H : ab_HT h n) (k m w : Int32) (hk0 : 0 ≤ k.toInt) (hk1 : k.toInt ≤ 5) : mc_R l G mt_X11_seek d (QS h n) (0, [(0, .ref 542), (1, .int k), (2, .int m), (3, .int w)], [], h, n, 0, 0) := by
  have hmi : mt_X11_seek ∈ mt_prog := List.mem_of_getElem? mi_X11_seek
  refine mc_cx hmi 2 (F' := (2, [(0, .ref 542), (1, .int k), (2, .int m), (3, .int w)], [.int k, .ref 542], h, n, 0, 0)) (by with_unfolding_all rfl) ?_
  refine mc_call hmi (en := (2, .invokevirtual 174, 3, (3, 174, 11, 0), [1363, 84, 1361])) rfl (q := (mt_X11_bound, [.ref 542, .int k], [])) (mc_inv (mc_HW_of H) (as := [.int k]) (rest := []) rfl (by with_unfolding_all rfl) rfl rfl rfl) ⟨rfl, rfl⟩ (pc' := 5) rfl (mc_mono (mc_bound (by omega) H k hk0 hk1) ?_)
  intro r1 h1 n1 P1
  obtain ⟨e1, H1, hn1, f1⟩ := P1
  rw [e1]
  show mc_R _ _ _ _ _ (5, [(0, .ref 542), (1, .int k), (2, .int m), (3, .int w)], [], h1, n1, 0, 0)
  refine mc_cx hmi 2 (F' := (7, [(0, .ref 542), (1, .int k), (2, .int m), (3, .int w)], [.int (Int32.ofInt 0), .ref 542], h1, n1, 0, 0)) (by with_unfolding_all rfl) ?_
  refine mc_puti hmi (mc_HW_of H1) (k := 542) (j := 35) (pc' := 10) rfl rfl rfl rfl (by rw [show ((Int32.ofInt 0)).toInt = 0 from by decide]; omega) (by rw [show ((Int32.ofInt 0)).toInt = 0 from by decide]; omega) rfl (fun h101 H102 w103 => ?_)
  refine mc_cx hmi 2 (F' := (13, [(0, .ref 542), (1, .int k), (2, .int m), (3, .int w)], [.int (Int8.ofInt 25).toInt32, .ref 542], h101, n1, 0, 0)) (by with_unfolding_all rfl) ?_
  refine mc_puti hmi H102 (k := 542) (j := 36) (pc' := 16) rfl rfl rfl rfl (by rw [show ((Int8.ofInt 25).toInt32).toInt = 25 from by decide]; omega) (by rw [show ((Int8.ofInt 25).toInt32).toInt = 25 from by decide]; omega) rfl (fun h104 H105 w106 => ?_)
  refine mc_cx hmi 1 (F' := (17, [(0, .ref 542), (1, .int k), (2, .int m), (3, .int w)], [.ref 542], h104, n1, 0, 0)) (by with_unfolding_all rfl) ?_
  refine mc_getr hmi H105 (k := 542) (c := 549) (pc' := 20) rfl rfl rfl rfl rfl ?_
  refine mc_cx hmi 2 (F' := (23, [(0, .ref 542), (1, .int k), (2, .int m), (3, .int w)], [.int (Int32.ofInt 0), .int (Int8.ofInt 12).toInt32, .ref 549], h104, n1, 0, 0)) (by with_unfolding_all rfl) ?_
  refine mc_iast hmi H105 (k := 549) (i := 12) (pc' := 24) rfl rfl rfl (by decide) (by omega) (by omega) (by rw [show ((Int32.ofInt 0)).toInt = 0 from by decide]; omega) (by rw [show ((Int32.ofInt 0)).toInt = 0 from by decide]; omega) rfl (fun h107 H108 w109 => ?_)
  refine mc_cx hmi 3 (F' := (29, [(4, .int (Int8.ofInt 13).toInt32), (0, .ref 542), (1, .int k), (2, .int m), (3, .int w)], [.ref 542], h107, n1, 0, 0)) (by with_unfolding_all rfl) ?_
  refine mc_getr hmi H108 (k := 542) (c := 563) (pc' := 32) rfl rfl rfl rfl rfl ?_
  refine mc_cx hmi 2 (F' := (35, [(4, .int (Int8.ofInt 13).toInt32), (0, .ref 542), (1, .int k), (2, .int m), (3, .int w)], [.int m, .int (Int8.ofInt 13).toInt32, .ref 563], h107, n1, 0, 0)) (by with_unfolding_all rfl) ?_
  have b110 := Int32.le_toInt (m)
  have b111 := Int32.toInt_lt (m)
  refine mc_iast hmi H108 (k := 563) (i := 13) (pc' := 36) rfl rfl rfl (by decide) (by omega) (by omega) (by rw [show (m).toInt = m.toInt from rfl]; omega) (by rw [show (m).toInt = m.toInt from rfl]; omega) rfl (fun h112 H113 w114 => ?_)
  refine mc_cx hmi 1 (F' := (37, [(4, .int (Int8.ofInt 13).toInt32), (0, .ref 542), (1, .int k), (2, .int m), (3, .int w)], [.ref 542], h112, n1, 0, 0)) (by with_unfolding_all rfl) ?_
  refine mc_getr hmi H113 (k := 542) (c := 564) (pc' := 40) rfl rfl rfl rfl rfl ?_
  refine mc_cx hmi 2 (F' := (43, [(4, .int (Int8.ofInt 13).toInt32), (0, .ref 542), (1, .int k), (2, .int m), (3, .int w)], [.int (Int32.ofInt 0), .int (Int8.ofInt 13).toInt32, .ref 564], h112, n1, 0, 0)) (by with_unfolding_all rfl) ?_
  refine mc_iast hmi H113 (k := 564) (i := 13) (pc' := 44) rfl rfl rfl (by decide) (by omega) (by omega) (by rw [show ((Int32.ofInt 0)).toInt = 0 from by decide]; omega) (by rw [show ((Int32.ofInt 0)).toInt = 0 from by decide]; omega) rfl (fun h115 H116 w117 => ?_)
  refine mc_cx hmi 1 (F' := (45, [(4, .int (Int8.ofInt 13).toInt32), (0, .ref 542), (1, .int k), (2, .int m), (3, .int w)], [.ref 542], h115, n1, 0, 0)) (by with_unfolding_all rfl) ?_
  refine mc_getr hmi H116 (k := 542) (c := 562) (pc' := 48) rfl rfl rfl rfl rfl ?_
  refine mc_cx hmi 2 (F' := (52, [(4, .int (Int8.ofInt 13).toInt32), (0, .ref 542), (1, .int k), (2, .int m), (3, .int w)], [.int (Int8.ofInt 14).toInt32, .int (Int8.ofInt 13).toInt32, .ref 562], h115, n1, 0, 0)) (by with_unfolding_all rfl) ?_
  refine mc_iast hmi H116 (k := 562) (i := 13) (pc' := 53) rfl rfl rfl (by decide) (by omega) (by omega) (by rw [show ((Int8.ofInt 14).toInt32).toInt = 14 from by decide]; omega) (by rw [show ((Int8.ofInt 14).toInt32).toInt = 14 from by decide]; omega) rfl (fun h118 H119 w120 => ?_)
  refine mc_cx hmi 3 (F' := (57, [(4, .int (Int8.ofInt 13).toInt32), (0, .ref 542), (1, .int k), (2, .int m), (3, .int w)], [.int (Int8.ofInt 13).toInt32, .int k, .ref 542], h118, n1, 0, 0)) (by with_unfolding_all rfl) ?_
  have ea : ((Int8.ofInt 13).toInt32).toInt = ((13 : Nat) : Int) := by decide
  refine mc_call hmi (en := (57, .invokevirtual 184, 3, (3, 182, 11, 0), [1370, 85, 1368])) rfl (q := (mt_X11_open, [.ref 542, .int k, .int (Int8.ofInt 13).toInt32], [])) (mc_inv H119 (as := [.int k, .int (Int8.ofInt 13).toInt32]) (rest := []) rfl (by with_unfolding_all rfl) rfl rfl rfl) ⟨rfl, rfl⟩ (pc' := 60) rfl (mc_mono (mc_open (by omega) H119 k (Int8.ofInt 13).toInt32 hk0 hk1 (j := 13) (by omega) ea) ?_)
  intro r2 h2 n2 P2
  obtain ⟨e2, e3, H2, f2, p2⟩ := P2
  rw [e2, e3]
  show mc_R _ _ _ _ _ (60, [(4, .int (Int8.ofInt 13).toInt32), (0, .ref 542), (1, .int k), (2, .int m), (3, .int w)], [], h2, n1, 0, 0)
  refine mc_lvs (lv' := [(0, .ref 542), (1, .int k), (3, .int w), (4, .int (Int8.ofInt 13).toInt32)]) (by simp) ?_
  have kx : ∀ h' : ax_H, mc_HW h' n1 → FRS h1 h' → mc_R l G mt_X11_seek d (QS h n) (254, [(0, .ref 542)], [], h', n1, 0, 0) := fun h' H' f' => mc_ret hmi rfl rfl rfl ⟨rfl, h1, H1, hn1, f1, H', f'⟩
  have S2 : SK h1 h2 n1 13 := by
    refine ⟨H2, fun k' i' p1 p2 p3 p4 p5 p6 p7 p8 p9 => ?_, ?_, fun i i1 i2 => absurd i2 (by omega)⟩
    · rw [f2 k' i' (fun q => absurd q p3) (fun q => absurd q p4), w120, if_neg (fun q => p5 q.1), w117, if_neg (fun q => p7 q.1), w114, if_neg (fun q => p6 q.1), w109, if_neg (fun q => p1 q.1), w106, if_neg (fun q => p9 q.1 q.2), w103, if_neg (fun q => p8 q.1 q.2)]
    · rw [ab_ri_of (f2 564 13 (fun q => absurd q (by decide)) (fun q => absurd q (by decide))), mc_ri w120, if_neg (fun q => absurd q.1 (by decide)), mc_ri w117, if_pos ⟨rfl, rfl⟩]; decide
  refine sk_lev hd k w hk0 hk1 kx 13 (Nat.le_refl _) _ h2 (Int8.ofInt 13).toInt32 S2 ea (Nat.le_refl _) (fun h3 a3 S3 ha3 A3 p3 => ?_)
  refine mc_cx hmi 2 (F' := (64, [(0, .ref 542), (1, .int k), (3, .int w), (4, .int a3)], [.int (Int8.ofInt 14).toInt32, .int a3], h3, n1, 0, 0)) (by with_unfolding_all rfl) ?_
  refine mc_ci hmi (c := .ge) (tg := 254) (pc' := 67) rfl rfl rfl ha3 (by decide) (fun (q121 : 14 ≤ ((13 : Nat) : Int)) => ?_) (fun (q121 : ((13 : Nat) : Int) < 14) => ?_)
  · exact absurd q121 (by omega)
  · refine mc_cx hmi 1 (F' := (68, [(0, .ref 542), (1, .int k), (3, .int w), (4, .int a3)], [.ref 542], h3, n1, 0, 0)) (by with_unfolding_all rfl) ?_
    refine mc_geti hmi S3.1 (k := 542) (j := 35) (pc' := 71) rfl rfl rfl rfl (fun y122 (e123 : y122.toInt = ab_ri h3 542 35) r124 r125 => ?_)
    rw [e123] at r124 r125
    refine mc_cx hmi 1 (F' := (74, [(0, .ref 542), (1, .int k), (3, .int w), (4, .int a3)], [.int (Int16.ofInt 5000).toInt32, .int y122], h3, n1, 0, 0)) (by with_unfolding_all rfl) ?_
    refine mc_ci hmi (c := .ge) (tg := 254) (pc' := 77) rfl rfl rfl e123 (by decide) (fun (q126 : 5000 ≤ ab_ri h3 542 35) => ?_) (fun (q126 : ab_ri h3 542 35 < 5000) => ?_)
    · refine mc_lvs (lv' := [(0, .ref 542)]) (by simp) ?_
      exact kx h3 S3.1 S3.2.1
    · refine mc_cx hmi 1 (F' := (78, [(0, .ref 542), (1, .int k), (3, .int w), (4, .int a3)], [.ref 542], h3, n1, 0, 0)) (by with_unfolding_all rfl) ?_
      refine mc_getr hmi S3.1 (k := 542) (c := 560) (pc' := 81) rfl rfl rfl rfl rfl ?_
      refine mc_cx hmi 1 (F' := (83, [(0, .ref 542), (1, .int k), (3, .int w), (4, .int a3)], [.int a3, .ref 560], h3, n1, 0, 0)) (by with_unfolding_all rfl) ?_
      refine mc_iald hmi S3.1 (k := 560) (i := ((13 : Nat) : Int)) (pc' := 84) rfl rfl rfl ha3 (by omega) (by omega) rfl (fun y127 e128 r129 r130 => ?_)
      rw [e128] at r129 r130
      refine mc_cz hmi (c := .ge) (tg := 118) (pc' := 87) rfl rfl rfl e128 (fun (q131 : 0 ≤ ab_ri h3 560 (((13 : Nat) : Int))) => ?_) (fun (q131 : ab_ri h3 560 (((13 : Nat) : Int)) < 0) => ?_)
      · exact absurd q131 (by omega)
      · refine mc_cx hmi 3 (F' := (94, [(4, .int (a3 + Int32.ofInt 1)), (0, .ref 542), (1, .int k), (3, .int w)], [.int (Int8.ofInt 14).toInt32, .int (a3 + Int32.ofInt 1)], h3, n1, 0, 0)) (by with_unfolding_all rfl) ?_
        have e132 : (a3 + Int32.ofInt 1).toInt = ((13 : Nat) : Int) + 1 := mc_add ha3 (by decide) (by omega) (by omega)
        refine mc_ci hmi (c := .ge) (tg := 60) (pc' := 97) rfl rfl rfl e132 (by decide) (fun (q133 : 14 ≤ (((13 : Nat) : Int) + 1)) => ?_) (fun (q133 : (((13 : Nat) : Int) + 1) < 14) => ?_)
        · refine mc_cx hmi 2 (F' := (64, [(4, .int (a3 + Int32.ofInt 1)), (0, .ref 542), (1, .int k), (3, .int w)], [.int (Int8.ofInt 14).toInt32, .int (a3 + Int32.ofInt 1)], h3, n1, 0, 0)) (by with_unfolding_all rfl) ?_
          refine mc_ci hmi (c := .ge) (tg := 254) (pc' := 67) rfl rfl rfl e132 (by decide) (fun (q134 : 14 ≤ (((13 : Nat) : Int) + 1)) => ?_) (fun (q134 : (((13 : Nat) : Int) + 1) < 14) => ?_)
          · refine mc_lvs (lv' := [(0, .ref 542)]) (by simp) ?_
            exact kx h3 S3.1 S3.2.1
          · exact absurd q134 (by omega)
        · exact absurd q133 (by omega)
set_option maxRecDepth 100000 in
theorem seek_ok {l : Launch} {G : ax_T} : ab_QOk l G mt_prog cq_3 := by
  intro mi hmi d hd V as h n hlen hg
  have hm : mi = mt_X11_seek := Option.some.inj (hmi.symm.trans mi_X11_seek)
  subst hm
  have hin : mt_X11_seek ∈ mt_prog := List.mem_of_getElem? mi_X11_seek
  have hd' : 10 ≤ d := hd
  obtain ⟨d, rfl⟩ : ∃ d', d = d' + 1 := ⟨d - 1, by omega⟩
  obtain ⟨g1, -, g3, -, -, -, -, g8, g9⟩ := hg
  have hH := g8.1
  obtain ⟨v0, q0, ⟨k, rfl, k1, k2, -⟩⟩ := g3.2 0 _ rfl
  obtain ⟨v1, q1, ⟨m, rfl, -, -, -⟩⟩ := g3.2 1 _ rfl
  obtain ⟨v2, q2, ⟨w, rfl, -, -, -⟩⟩ := g3.2 2 _ rfl
  obtain ⟨x0, a0, b0⟩ := g1 0 _ rfl
  obtain ⟨x1, a1, b1⟩ := g1 1 _ rfl
  obtain ⟨x2, a2, b2⟩ := g1 2 _ rfl
  obtain ⟨x3, a3, b3⟩ := g1 3 _ rfl
  cases b0
  have e1 : x1 = .int k := Option.some.inj (b1.symm.trans q0)
  have e2 : x2 = .int m := Option.some.inj (b2.symm.trans q1)
  have e3 : x3 = .int w := Option.some.inj (b3.symm.trans q2)
  subst e1 e2 e3
  have hW := mc_HW_of hH
  obtain ⟨o, m1, m2, h1, H1, hn1, f1, m4, m5⟩ := mc_toL (l := l) (G := G) hin hlen (lv' := [(0, .ref 542), (1, .int k), (2, .int m), (3, .int w)]) (List.forall_mem_cons.mpr ⟨a0, List.forall_mem_cons.mpr ⟨a1, List.forall_mem_cons.mpr ⟨a2, List.forall_mem_cons.mpr ⟨a3, fun q hq => nomatch hq⟩⟩⟩⟩) (mc_seek (l := l) (G := G) (d := d) (by omega) hH k m w k1 k2)
  have hW1 := mc_HW_of H1
  have hJ : ab_J o.2.1 := mc_J2 hW1 (fun k i q => by
    by_cases hk : k = 549 ∨ k = 550 ∨ k = 560 ∨ k = 561 ∨ k = 562 ∨ k = 563 ∨ k = 564
    · rcases hk with rfl | rfl | rfl | rfl | rfl | rfl | rfl <;> rcases q with q | q | q | q | q <;> first | (exact absurd q (by decide)) | (exact absurd q.1 (by decide))
    · simp only [not_or] at hk
      obtain ⟨c1, c2, c3, c4, c5, c6, c7⟩ := hk
      refine m5 k i c1 c2 c3 c4 c5 c6 c7 (fun z => ?_) (fun z => ?_) <;> subst z <;> rcases q with q | q | q | q | q <;> first | (exact absurd q (by decide)) | (rw [q.2]; decide)) H1.2.2.1
  refine ⟨o, m1, _, List.mem_singleton.mpr rfl, V, 0, 0, fun k a hk => (by cases hk), ?_, ab_ty_mono hn1 g3, fun q hq => (nomatch hq), fun q hq => (nomatch hq), fun q hq => (nomatch hq), ⟨rfl, rfl⟩, ⟨mc_HT_of m4 hJ, fun k hk i hi => ?_, hn1⟩, g9⟩
  · rw [m2]; trivial
  · have hb : ab_md hq_2.2.2.2.1 (ab_k k) i = false := ab_smd_ok (md := cq_3.2.2.2.1) (by decide +kernel) hi
    have hf := f1 k hk i hb
    by_cases hn : i < 0 ∧ (k = 549 ∨ k = 550 ∨ k = 560 ∨ k = 561 ∨ k = 562 ∨ k = 563 ∨ k = 564)
    · refine mc_negrd hW m4 ?_ hn.1
      rcases hn.2 with rfl | rfl | rfl | rfl | rfl | rfl | rfl <;> rfl
    · refine Eq.trans ?_ hf
      have hmem : ((301052592665196792643584, (-2 : Int)) : Nat × Int) ∈ cq_3.2.2.2.1 := List.mem_cons_self
      refine m5 k i ?_ ?_ ?_ ?_ ?_ ?_ ?_ (fun z z2 => ?_) (fun z z2 => ?_)
      · intro z
        subst z
        have := mc_mdE hmem (κ := ab_k 549) (by decide +kernel) (i := i) (by omega)
        rw [this] at hi; cases hi
      · intro z
        subst z
        have := mc_mdE hmem (κ := ab_k 550) (by decide +kernel) (i := i) (by omega)
        rw [this] at hi; cases hi
      · intro z
        subst z
        have := mc_mdE hmem (κ := ab_k 560) (by decide +kernel) (i := i) (by omega)
        rw [this] at hi; cases hi
      · intro z
        subst z
        have := mc_mdE hmem (κ := ab_k 561) (by decide +kernel) (i := i) (by omega)
        rw [this] at hi; cases hi
      · intro z
        subst z
        have := mc_mdE hmem (κ := ab_k 562) (by decide +kernel) (i := i) (by omega)
        rw [this] at hi; cases hi
      · intro z
        subst z
        have := mc_mdE hmem (κ := ab_k 563) (by decide +kernel) (i := i) (by omega)
        rw [this] at hi; cases hi
      · intro z
        subst z
        have := mc_mdE hmem (κ := ab_k 564) (by decide +kernel) (i := i) (by omega)
        rw [this] at hi; cases hi
      · subst z z2
        have : ab_md cq_3.2.2.2.1 (ab_k 542) 35 = true := by decide +kernel
        rw [this] at hi; cases hi
      · subst z z2
        have : ab_md cq_3.2.2.2.1 (ab_k 542) 36 = true := by decide +kernel
        rw [this] at hi; cases hi
end
section
/-! ===== by hand: the stone, in the reference and in the class; pour, lift (ways printed by wip/hand/h_stone.py) ===== -/
def ks_54_l : List ab_Y := [.inl (73, 73, 0), .inl (86, 86, 0), .inl (88, 88, 0), .inl (76, 76, 0), .inl (67, 67, 0), .inl (68, 68, 0), .inl (77, 77, 0), .inl (105, 105, 0), .inl (118, 118, 0), .inl (120, 120, 0), .inl (108, 108, 0), .inl (99, 99, 0), .inl (100, 100, 0), .inl (109, 109, 0)]
set_option maxRecDepth 100000 in
theorem let_at (h : ax_H) (n : Nat) (H : mc_HW h n) : ∀ j : Nat, j < 14 → ab_ri h 544 (j : Int) = ab_let.getD j 0 := by
  intro j hj
  have key : ∀ (i : Nat) (c : Int), i < 14 → [(73 : Int), 86, 88, 76, 67, 68, 77, 105, 118, 120, 108, 99, 100, 109][i]? = some c → ∀ g, (ks_54_l[i]? = some (.inl (c, c, g))) → ab_ri h 544 (i : Int) = c := by
    intro i c hi hc g hg
    have := mc_cst H (k := 544) (σ := ks_54_l) rfl rfl hi hg
    omega
  match j, hj with
  | 0, _ => exact key 0 73 (by decide) rfl 0 rfl
  | 1, _ => exact key 1 86 (by decide) rfl 0 rfl
  | 2, _ => exact key 2 88 (by decide) rfl 0 rfl
  | 3, _ => exact key 3 76 (by decide) rfl 0 rfl
  | 4, _ => exact key 4 67 (by decide) rfl 0 rfl
  | 5, _ => exact key 5 68 (by decide) rfl 0 rfl
  | 6, _ => exact key 6 77 (by decide) rfl 0 rfl
  | 7, _ => exact key 7 105 (by decide) rfl 0 rfl
  | 8, _ => exact key 8 118 (by decide) rfl 0 rfl
  | 9, _ => exact key 9 120 (by decide) rfl 0 rfl
  | 10, _ => exact key 10 108 (by decide) rfl 0 rfl
  | 11, _ => exact key 11 99 (by decide) rfl 0 rfl
  | 12, _ => exact key 12 100 (by decide) rfl 0 rfl
  | 13, _ => exact key 13 109 (by decide) rfl 0 rfl
set_option maxRecDepth 100000 in
theorem let_in {x : Int} (hx : x ∈ ab_let) : ∃ j : Nat, j < 14 ∧ ab_let.getD j 0 = x := by
  obtain ⟨j, hj⟩ := List.mem_iff_getElem?.mp hx
  have hl := (List.getElem?_eq_some_iff.mp hj).1
  exact ⟨j, hl, by rw [List.getD_eq_getElem?_getD, hj]; rfl⟩
set_option maxRecDepth 100000 in
theorem let_mem {j : Nat} (hj : j < 14) : ab_let.getD j 0 ∈ ab_let := by
  have : ab_let[j]? = some (ab_let[j]'hj) := List.getElem?_eq_getElem hj
  rw [List.getD_eq_getElem?_getD, this]
  exact List.getElem_mem hj
-- how many gaps there are among the first letters
def gq (f : Int → Int) : Nat → Nat
  | 0 => 0
  | i + 1 => gq f i + (if f (i : Int) = 46 then 1 else 0)
set_option maxRecDepth 100000 in
theorem gq_le (f : Int → Int) : ∀ m : Nat, gq f m ≤ m
  | 0 => Nat.le_refl 0
  | m + 1 => by
    have := gq_le f m
    show gq f m + _ ≤ m + 1
    split <;> omega
set_option maxRecDepth 100000 in
theorem gc_gq {h : ax_H} {k : Nat} {f : Int → Int} : ∀ m : Nat, (∀ t : Nat, t < m → (ab_ri h k (t : Int) = 14 ↔ f (t : Int) = 46)) → ab_gc h k m = gq f m
  | 0, _ => rfl
  | m + 1, e => by
    show ab_gc h k m + (if ab_ri h k (m : Int) = 14 then 1 else 0) = gq f m + (if f (m : Int) = 46 then 1 else 0)
    rw [gc_gq m (fun t ht => e t (by omega))]
    by_cases q : f (m : Int) = 46
    · rw [if_pos q, if_pos ((e m (by omega)).mpr q)]
    · rw [if_neg q, if_neg (fun z => q ((e m (by omega)).mp z))]
set_option maxRecDepth 100000 in
theorem so_loop {l : Launch} {G : ax_T} {d : Nat} {h : ax_H} {n : Nat} (H : mc_HW h n) (c : Int32) : ∀ (e j : Nat) (i : Int32), j + e = 14 → i.toInt = (j : Int) → (∀ t : Nat, t < j → ab_let.getD t 0 ≠ c.toInt) → mc_R l G mt_X11_signOf d (mc_P h n fun y => ((c.toInt ∈ ab_let ∧ 0 ≤ y.toInt ∧ y.toInt ≤ 13) ∨ (c.toInt ∉ ab_let ∧ y.toInt = -1))) (2, [(0, .ref 542), (1, .int c), (2, .int i)], [], h, n, 0, 0) := by
  have hmi : mt_X11_signOf ∈ mt_prog := List.mem_of_getElem? mi_X11_signOf
  intro e
  induction e with
  | zero =>
    intro j i hj hi hno
    refine mc_cx hmi 2 (F' := (5, [(0, .ref 542), (1, .int c), (2, .int i)], [.int (Int8.ofInt 14).toInt32, .int i], h, n, 0, 0)) (by with_unfolding_all rfl) ?_
    refine mc_ci hmi (c := .ge) (tg := 26) (pc' := 8) rfl rfl rfl hi (by decide) (fun (q101 : 14 ≤ (j : Int)) => ?_) (fun (q101 : (j : Int) < 14) => ?_)
    · refine mc_cx hmi 1 (F' := (27, [(0, .ref 542), (1, .int c), (2, .int i)], [.int (Int32.ofInt (-1))], h, n, 0, 0)) (by with_unfolding_all rfl) ?_
      refine mc_ret hmi rfl rfl rfl ⟨rfl, rfl, _, rfl, Or.inr ⟨fun hm => ?_, by decide⟩⟩
      obtain ⟨t, t1, t2⟩ := let_in hm
      exact hno t (by omega) t2
    · exact absurd q101 (by omega)
  | succ e ih =>
    intro j i hj hi hno
    refine mc_cx hmi 2 (F' := (5, [(0, .ref 542), (1, .int c), (2, .int i)], [.int (Int8.ofInt 14).toInt32, .int i], h, n, 0, 0)) (by with_unfolding_all rfl) ?_
    refine mc_ci hmi (c := .ge) (tg := 26) (pc' := 8) rfl rfl rfl hi (by decide) (fun (q102 : 14 ≤ (j : Int)) => ?_) (fun (q102 : (j : Int) < 14) => ?_)
    · exact absurd q102 (by omega)
    · have hc := let_at h n H j (by omega)
      refine mc_cx hmi 1 (F' := (9, [(0, .ref 542), (1, .int c), (2, .int i)], [.ref 542], h, n, 0, 0)) (by with_unfolding_all rfl) ?_
      refine mc_getr hmi H (k := 542) (c := 544) (pc' := 12) rfl rfl rfl rfl rfl ?_
      refine mc_cx hmi 1 (F' := (13, [(0, .ref 542), (1, .int c), (2, .int i)], [.int i, .ref 544], h, n, 0, 0)) (by with_unfolding_all rfl) ?_
      refine mc_iald hmi H (k := 544) (i := (j : Int)) (pc' := 14) rfl rfl rfl hi (by omega) (by omega) rfl (fun y103 e104 r105 r106 => ?_)
      rw [e104] at r105 r106
      refine mc_cx hmi 1 (F' := (15, [(0, .ref 542), (1, .int c), (2, .int i)], [.int c, .int y103], h, n, 0, 0)) (by with_unfolding_all rfl) ?_
      refine mc_ci hmi (c := .ne) (tg := 20) (pc' := 18) rfl rfl rfl e104 rfl (fun (q107 : ab_ri h 544 ((j : Int)) ≠ c.toInt) => ?_) (fun (q107 : ab_ri h 544 ((j : Int)) = c.toInt) => ?_)
      · refine mc_cx hmi 2 (F' := (2, [(2, .int (i + Int32.ofInt 1)), (0, .ref 542), (1, .int c)], [], h, n, 0, 0)) (by with_unfolding_all rfl) ?_
        have e108 : (i + Int32.ofInt 1).toInt = (j : Int) + 1 := mc_add hi (by decide) (by omega) (by omega)
        refine mc_lvs (lv' := [(0, .ref 542), (1, .int c), (2, .int (i + Int32.ofInt 1))]) (by simp) ?_
        refine ih (j + 1) (i + Int32.ofInt 1) (by omega) (by rw [e108]; omega) (fun t ht => ?_)
        by_cases q : t = j
        · rw [q, ← hc]; exact q107
        · exact hno t (by omega)
      · refine mc_cx hmi 1 (F' := (19, [(0, .ref 542), (1, .int c), (2, .int i)], [.int i], h, n, 0, 0)) (by with_unfolding_all rfl) ?_
        refine mc_ret hmi rfl rfl rfl ⟨rfl, rfl, _, rfl, Or.inl ⟨?_, by omega, by omega⟩⟩
        rw [← q107, hc]; exact let_mem (by omega)
set_option maxRecDepth 100000 in
theorem mc_signOf {l : Launch} {G : ax_T} {d : Nat} {h : ax_H} {n : Nat} (hd : 1 ≤ d) (H : mc_HW h n) (c : Int32) : mc_M l G d mt_X11_signOf [.ref 542, .int c] h n (mc_P h n fun y => ((c.toInt ∈ ab_let ∧ 0 ≤ y.toInt ∧ y.toInt ≤ 13) ∨ (c.toInt ∉ ab_let ∧ y.toInt = -1))) := by
  obtain ⟨d, rfl⟩ : ∃ e, d = e + 1 := ⟨d - 1, by omega⟩
  have hmi : mt_X11_signOf ∈ mt_prog := List.mem_of_getElem? mi_X11_signOf
  refine mc_to hmi rfl ?_
  show mc_R _ _ _ _ _ (0, [(0, .ref 542), (1, .int c)], [], h, n, 0, 0)
  refine mc_cx hmi 2 (F' := (2, [(2, .int (Int32.ofInt 0)), (0, .ref 542), (1, .int c)], [], h, n, 0, 0)) (by with_unfolding_all rfl) ?_
  refine mc_lvs (lv' := [(0, .ref 542), (1, .int c), (2, .int (Int32.ofInt 0))]) (by simp) ?_
  exact so_loop H c 14 0 _ rfl rfl (fun t ht => absurd ht (Nat.not_lt_zero t))
set_option maxRecDepth 100000 in
theorem st_1 {l : Launch} {G : ax_T} {d : Nat} {Q : Option Value → ax_H → Nat → Prop} {h : ax_H} {n : Nat} (hd : 1 ≤ d) (H : mc_HW h n) (s b : Int32) (hs : s.toInt ≤ 80) (kk : ∀ g q : Int32, (q.toInt = 0 ∨ q.toInt = 1 ∧ 1 ≤ s.toInt ∧ s.toInt ≤ 20 ∧ (∀ t : Nat, t < s.toInt.toNat → ab_ri h 545 (t : Int) = 46 ∨ ab_ri h 545 (t : Int) ∈ ab_let) ∧ g.toInt = (gq (ab_ri h 545) s.toInt.toNat : Int)) → mc_R l G mt_X11_stone d Q (125, [(0, .ref 542), (1, .int s), (2, .int b), (3, .int g), (4, .int q)], [], h, n, 0, 0)) : ∀ (c j : Nat) (g q i : Int32), (s.toInt - (j : Int)).toNat ≤ c → i.toInt = (j : Int) → (j : Int) ≤ s.toInt ∨ q.toInt = 0 → -(j : Int) ≤ 0 → 0 ≤ g.toInt → g.toInt ≤ (j : Int) → (q.toInt = 0 ∨ q.toInt = 1 ∧ 1 ≤ s.toInt ∧ s.toInt ≤ 20 ∧ (∀ t : Nat, t < j → ab_ri h 545 (t : Int) = 46 ∨ ab_ri h 545 (t : Int) ∈ ab_let) ∧ g.toInt = (gq (ab_ri h 545) j : Int)) → mc_R l G mt_X11_stone d Q (54, [(0, .ref 542), (1, .int s), (2, .int b), (3, .int g), (4, .int q), (5, .int i)], [], h, n, 0, 0) := by
  have hmi : mt_X11_stone ∈ mt_prog := List.mem_of_getElem? mi_X11_stone
  intro c
  induction c with
  | zero =>
    intro j g q i hc hi hjs _ hg0 hg1 hinv
    refine mc_cx hmi 2 (F' := (57, [(0, .ref 542), (1, .int s), (2, .int b), (3, .int g), (4, .int q), (5, .int i)], [.int s, .int i], h, n, 0, 0)) (by with_unfolding_all rfl) ?_
    refine mc_ci hmi (c := .ge) (tg := 125) (pc' := 60) rfl rfl rfl hi rfl (fun (q109 : s.toInt ≤ (j : Int)) => ?_) (fun (q109 : (j : Int) < s.toInt) => ?_)
    · refine mc_lvs (lv' := [(0, .ref 542), (1, .int s), (2, .int b), (3, .int g), (4, .int q)]) (by simp) ?_
      refine kk g q ?_
      rcases hinv with z | ⟨z1, z2, z3, z4, z5⟩
      · exact Or.inl z
      · have e : s.toInt.toNat = j := by omega
        rw [e]; exact Or.inr ⟨z1, z2, z3, z4, z5⟩
    · exact absurd q109 (by omega)
  | succ c ih =>
    intro j g q i hc hi hjs _ hg0 hg1 hinv
    refine mc_cx hmi 2 (F' := (57, [(0, .ref 542), (1, .int s), (2, .int b), (3, .int g), (4, .int q), (5, .int i)], [.int s, .int i], h, n, 0, 0)) (by with_unfolding_all rfl) ?_
    refine mc_ci hmi (c := .ge) (tg := 125) (pc' := 60) rfl rfl rfl hi rfl (fun (q110 : s.toInt ≤ (j : Int)) => ?_) (fun (q110 : (j : Int) < s.toInt) => ?_)
    · refine mc_lvs (lv' := [(0, .ref 542), (1, .int s), (2, .int b), (3, .int g), (4, .int q)]) (by simp) ?_
      refine kk g q ?_
      rcases hinv with z | ⟨z1, z2, z3, z4, z5⟩
      · exact Or.inl z
      · have e : s.toInt.toNat = j := by omega
        rw [e]; exact Or.inr ⟨z1, z2, z3, z4, z5⟩
    · refine mc_cx hmi 1 (F' := (62, [(0, .ref 542), (1, .int s), (2, .int b), (3, .int g), (4, .int q), (5, .int i)], [.int q], h, n, 0, 0)) (by with_unfolding_all rfl) ?_
      refine mc_cz hmi (c := .eq) (tg := 125) (pc' := 65) rfl rfl rfl rfl (fun (q111 : q.toInt = 0) => ?_) (fun (q111 : q.toInt ≠ 0) => ?_)
      · refine mc_lvs (lv' := [(0, .ref 542), (1, .int s), (2, .int b), (3, .int g), (4, .int q)]) (by simp) ?_
        exact kk g q (Or.inl q111)
      · obtain ⟨z1, z2, z3, z4, z5⟩ : q.toInt = 1 ∧ 1 ≤ s.toInt ∧ s.toInt ≤ 20 ∧ (∀ t : Nat, t < j → ab_ri h 545 (t : Int) = 46 ∨ ab_ri h 545 (t : Int) ∈ ab_let) ∧ g.toInt = (gq (ab_ri h 545) j : Int) := by
          rcases hinv with z | z
          · exact absurd z q111
          · exact z
        refine mc_cx hmi 2 (F' := (67, [(0, .ref 542), (1, .int s), (2, .int b), (3, .int g), (4, .int q), (5, .int i)], [.ref 542, .int g], h, n, 0, 0)) (by with_unfolding_all rfl) ?_
        refine mc_getr hmi H (k := 542) (c := 545) (pc' := 70) rfl rfl rfl rfl rfl ?_
        refine mc_cx hmi 1 (F' := (72, [(0, .ref 542), (1, .int s), (2, .int b), (3, .int g), (4, .int q), (5, .int i)], [.int i, .ref 545, .int g], h, n, 0, 0)) (by with_unfolding_all rfl) ?_
        refine mc_bald hmi H (k := 545) (i := (j : Int)) (pc' := 73) rfl rfl rfl hi (by omega) (by omega) rfl (fun y112 e113 r114 r115 => ?_)
        rw [e113] at r114 r115
        refine mc_cx hmi 1 (F' := (75, [(0, .ref 542), (1, .int s), (2, .int b), (3, .int g), (4, .int q), (5, .int i)], [.int (Int8.ofInt 46).toInt32, .int y112, .int g], h, n, 0, 0)) (by with_unfolding_all rfl) ?_
        have k83 : ∀ u : Int32, u.toInt = (if ab_ri h 545 (j : Int) = 46 then (1 : Int) else 0) → mc_R l G mt_X11_stone d Q (83, [(0, .ref 542), (1, .int s), (2, .int b), (3, .int g), (4, .int q), (5, .int i)], [.int u, .int g], h, n, 0, 0) := by
          intro u hu
          have hu1 : 0 ≤ u.toInt ∧ u.toInt ≤ 1 := by rw [hu]; split <;> decide
          refine mc_cx hmi 3 (F' := (86, [(3, .int (g + u)), (0, .ref 542), (1, .int s), (2, .int b), (4, .int q), (5, .int i)], [.ref 542], h, n, 0, 0)) (by with_unfolding_all rfl) ?_
          have e116 : (g + u).toInt = g.toInt + u.toInt := mc_add rfl rfl (by omega) (by omega)
          refine mc_getr hmi H (k := 542) (c := 545) (pc' := 89) rfl rfl rfl rfl rfl ?_
          refine mc_cx hmi 1 (F' := (91, [(3, .int (g + u)), (0, .ref 542), (1, .int s), (2, .int b), (4, .int q), (5, .int i)], [.int i, .ref 545], h, n, 0, 0)) (by with_unfolding_all rfl) ?_
          refine mc_bald hmi H (k := 545) (i := (j : Int)) (pc' := 92) rfl rfl rfl hi (by omega) (by omega) rfl (fun y117 e118 r119 r120 => ?_)
          rw [e118] at r119 r120
          refine mc_cx hmi 1 (F' := (94, [(3, .int (g + u)), (0, .ref 542), (1, .int s), (2, .int b), (4, .int q), (5, .int i)], [.int (Int8.ofInt 46).toInt32, .int y117], h, n, 0, 0)) (by with_unfolding_all rfl) ?_
          have egq : (g + u).toInt = (gq (ab_ri h 545) (j + 1) : Int) := by
            rw [e116, hu, z5]
            show _ = ((gq (ab_ri h 545) j + (if ab_ri h 545 (j : Int) = 46 then 1 else 0) : Nat) : Int)
            split <;> rfl
          have k117 : ∀ v : Int32, (v.toInt = 0 ∨ v.toInt = 1 ∧ (ab_ri h 545 (j : Int) = 46 ∨ ab_ri h 545 (j : Int) ∈ ab_let)) → mc_R l G mt_X11_stone d Q (117, [(3, .int (g + u)), (0, .ref 542), (1, .int s), (2, .int b), (4, .int q), (5, .int i)], [.int v], h, n, 0, 0) := by
            intro v hv
            refine mc_cx hmi 3 (F' := (54, [(5, .int (i + Int32.ofInt 1)), (4, .int v), (3, .int (g + u)), (0, .ref 542), (1, .int s), (2, .int b)], [], h, n, 0, 0)) (by with_unfolding_all rfl) ?_
            have e121 : (i + Int32.ofInt 1).toInt = (j : Int) + 1 := mc_add hi (by decide) (by omega) (by omega)
            refine mc_lvs (lv' := [(0, .ref 542), (1, .int s), (2, .int b), (3, .int (g + u)), (4, .int v), (5, .int (i + Int32.ofInt 1))]) (by simp) ?_
            refine ih (j + 1) (g + u) v (i + Int32.ofInt 1) (by omega) (by rw [e121]; omega) (by omega) (by omega) (by rw [e116]; omega) (by rw [e116]; omega) ?_
            rcases hv with hv | ⟨hv, hl⟩
            · exact Or.inl hv
            · refine Or.inr ⟨hv, z2, z3, fun t ht => ?_, egq⟩
              by_cases e : t = j
              · rw [e]; exact hl
              · exact z4 t (by omega)
          refine mc_ci hmi (c := .eq) (tg := 112) (pc' := 97) rfl rfl rfl e118 (by decide) (fun (q122 : ab_ri h 545 ((j : Int)) = 46) => ?_) (fun (q122 : ab_ri h 545 ((j : Int)) ≠ 46) => ?_)
          · refine mc_cx hmi 2 (F' := (117, [(3, .int (g + u)), (0, .ref 542), (1, .int s), (2, .int b), (4, .int q), (5, .int i)], [.int (Int32.ofInt 1)], h, n, 0, 0)) (by with_unfolding_all rfl) ?_
            exact k117 _ (Or.inr ⟨by decide, Or.inl q122⟩)
          · refine mc_cx hmi 2 (F' := (99, [(3, .int (g + u)), (0, .ref 542), (1, .int s), (2, .int b), (4, .int q), (5, .int i)], [.ref 542, .ref 542], h, n, 0, 0)) (by with_unfolding_all rfl) ?_
            refine mc_getr hmi H (k := 542) (c := 545) (pc' := 102) rfl rfl rfl rfl rfl ?_
            refine mc_cx hmi 1 (F' := (104, [(3, .int (g + u)), (0, .ref 542), (1, .int s), (2, .int b), (4, .int q), (5, .int i)], [.int i, .ref 545, .ref 542], h, n, 0, 0)) (by with_unfolding_all rfl) ?_
            refine mc_bald hmi H (k := 545) (i := (j : Int)) (pc' := 105) rfl rfl rfl hi (by omega) (by omega) rfl (fun y123 e124 r125 r126 => ?_)
            rw [e124] at r125 r126
            refine mc_callP hmi (en := (105, .invokevirtual 116, 3, (3, 155, 11, 0), [1288, 76, 1286])) rfl (q := (mt_X11_signOf, [.ref 542, .int y123], [])) (mc_inv H (as := [.int y123]) (rest := []) rfl (by with_unfolding_all rfl) rfl rfl rfl) ⟨rfl, rfl⟩ (pc' := 108) rfl (mc_signOf hd H y123) (fun y127 e128 => ?_)
            rw [e124] at e128
            refine mc_cx hmi 1 (F' := (109, [(3, .int (g + u)), (0, .ref 542), (1, .int s), (2, .int b), (4, .int q), (5, .int i)], [.int (Int32.ofInt (-1)), .int y127], h, n, 0, 0)) (by with_unfolding_all rfl) ?_
            refine mc_ci hmi (c := .eq) (tg := 116) (pc' := 112) rfl rfl rfl rfl (by decide) (fun (q129 : y127.toInt = (-1)) => ?_) (fun (q129 : y127.toInt ≠ (-1)) => ?_)
            · refine mc_cx hmi 1 (F' := (117, [(3, .int (g + u)), (0, .ref 542), (1, .int s), (2, .int b), (4, .int q), (5, .int i)], [.int (Int32.ofInt 0)], h, n, 0, 0)) (by with_unfolding_all rfl) ?_
              exact k117 _ (Or.inl (by decide))
            · refine mc_cx hmi 2 (F' := (117, [(3, .int (g + u)), (0, .ref 542), (1, .int s), (2, .int b), (4, .int q), (5, .int i)], [.int (Int32.ofInt 1)], h, n, 0, 0)) (by with_unfolding_all rfl) ?_
              exact k117 _ (Or.inr ⟨by decide, Or.inr (e128.elim (fun q => q.1) (fun q => absurd q.2 q129))⟩)
        refine mc_ci hmi (c := .ne) (tg := 82) (pc' := 78) rfl rfl rfl e113 (by decide) (fun (q130 : ab_ri h 545 ((j : Int)) ≠ 46) => ?_) (fun (q130 : ab_ri h 545 ((j : Int)) = 46) => ?_)
        · refine mc_cx hmi 1 (F' := (83, [(0, .ref 542), (1, .int s), (2, .int b), (3, .int g), (4, .int q), (5, .int i)], [.int (Int32.ofInt 0), .int g], h, n, 0, 0)) (by with_unfolding_all rfl) ?_
          exact k83 _ (by rw [if_neg q130]; decide)
        · refine mc_cx hmi 2 (F' := (83, [(0, .ref 542), (1, .int s), (2, .int b), (3, .int g), (4, .int q), (5, .int i)], [.int (Int32.ofInt 1), .int g], h, n, 0, 0)) (by with_unfolding_all rfl) ?_
          exact k83 _ (by rw [if_pos q130]; decide)
set_option maxRecDepth 100000 in
theorem st_2 {l : Launch} {G : ax_T} {d : Nat} {Q : Option Value → ax_H → Nat → Prop} {h : ax_H} {n : Nat} (hd : 1 ≤ d) (s b : Int32) {N : Nat} (hs : s.toInt = (N : Int)) (hN : N ≤ 20) (hok : (∀ t : Nat, t < N → ab_ri h 545 (t : Int) = 46 ∨ ab_ri h 545 (t : Int) ∈ ab_let)) (kk : ∀ h' : ax_H, mc_HW h' n → (∀ (k' : Nat) (i' : Int), k' ≠ 554 → ab_rd h' k' i' = ab_rd h k' i') → (∀ t : Nat, t < N → (ab_ri h' 554 (t : Int) = 14 ↔ ab_ri h 545 (t : Int) = 46)) → mc_R l G mt_X11_stone d Q (188, [(0, .ref 542), (1, .int s), (2, .int b)], [], h', n, 0, 0)) : ∀ (c j : Nat) (h' : ax_H) (i : Int32), j + c = N → i.toInt = (j : Int) → mc_HW h' n → (∀ (k' : Nat) (i' : Int), k' ≠ 554 → ab_rd h' k' i' = ab_rd h k' i') → (∀ t : Nat, t < j → (ab_ri h' 554 (t : Int) = 14 ↔ ab_ri h 545 (t : Int) = 46)) → mc_R l G mt_X11_stone d Q (141, [(0, .ref 542), (1, .int s), (2, .int b), (5, .int i)], [], h', n, 0, 0) := by
  have hmi : mt_X11_stone ∈ mt_prog := List.mem_of_getElem? mi_X11_stone
  intro c
  induction c with
  | zero =>
    intro j h' i hj hi H' hfr hz
    refine mc_cx hmi 2 (F' := (144, [(0, .ref 542), (1, .int s), (2, .int b), (5, .int i)], [.int s, .int i], h', n, 0, 0)) (by with_unfolding_all rfl) ?_
    refine mc_ci hmi (c := .ge) (tg := 188) (pc' := 147) rfl rfl rfl hi hs (fun (q131 : (N : Int) ≤ (j : Int)) => ?_) (fun (q131 : (j : Int) < (N : Int)) => ?_)
    · refine mc_lvs (lv' := [(0, .ref 542), (1, .int s), (2, .int b)]) (by simp) ?_
      have e : j = N := by omega
      rw [e] at hz
      exact kk h' H' hfr hz
    · exact absurd q131 (by omega)
  | succ c ih =>
    intro j h' i hj hi H' hfr hz
    refine mc_cx hmi 2 (F' := (144, [(0, .ref 542), (1, .int s), (2, .int b), (5, .int i)], [.int s, .int i], h', n, 0, 0)) (by with_unfolding_all rfl) ?_
    refine mc_ci hmi (c := .ge) (tg := 188) (pc' := 147) rfl rfl rfl hi hs (fun (q132 : (N : Int) ≤ (j : Int)) => ?_) (fun (q132 : (j : Int) < (N : Int)) => ?_)
    · exact absurd q132 (by omega)
    · have hpg : ab_ri h' 545 (j : Int) = ab_ri h 545 (j : Int) := ab_ri_of (hfr 545 _ (by decide))
      refine mc_cx hmi 1 (F' := (148, [(0, .ref 542), (1, .int s), (2, .int b), (5, .int i)], [.ref 542], h', n, 0, 0)) (by with_unfolding_all rfl) ?_
      refine mc_getr hmi H' (k := 542) (c := 554) (pc' := 151) rfl rfl rfl rfl rfl ?_
      refine mc_cx hmi 2 (F' := (154, [(0, .ref 542), (1, .int s), (2, .int b), (5, .int i)], [.ref 542, .int i, .ref 554], h', n, 0, 0)) (by with_unfolding_all rfl) ?_
      refine mc_getr hmi H' (k := 542) (c := 545) (pc' := 157) rfl rfl rfl rfl rfl ?_
      refine mc_cx hmi 1 (F' := (159, [(0, .ref 542), (1, .int s), (2, .int b), (5, .int i)], [.int i, .ref 545, .int i, .ref 554], h', n, 0, 0)) (by with_unfolding_all rfl) ?_
      refine mc_bald hmi H' (k := 545) (i := (j : Int)) (pc' := 160) rfl rfl rfl hi (by omega) (by omega) rfl (fun y133 e134 r135 r136 => ?_)
      rw [e134] at r135 r136
      refine mc_cx hmi 1 (F' := (162, [(0, .ref 542), (1, .int s), (2, .int b), (5, .int i)], [.int (Int8.ofInt 46).toInt32, .int y133, .int i, .ref 554], h', n, 0, 0)) (by with_unfolding_all rfl) ?_
      have k181 : ∀ u : Int32, 0 ≤ u.toInt → u.toInt ≤ 14 → (u.toInt = 14 ↔ ab_ri h 545 (j : Int) = 46) → mc_R l G mt_X11_stone d Q (181, [(0, .ref 542), (1, .int s), (2, .int b), (5, .int i)], [.int u, .int i, .ref 554], h', n, 0, 0) := by
        intro u hu0 hu1 hu
        have b137 := Int32.le_toInt (u)
        have b138 := Int32.toInt_lt (u)
        refine mc_iast hmi H' (k := 554) (i := (j : Int)) (pc' := 182) rfl rfl rfl hi (by omega) (by omega) (by rw [show (u).toInt = u.toInt from rfl]; omega) (by rw [show (u).toInt = u.toInt from rfl]; omega) rfl (fun h139 H140 w141 => ?_)
        refine mc_cx hmi 2 (F' := (141, [(5, .int (i + Int32.ofInt 1)), (0, .ref 542), (1, .int s), (2, .int b)], [], h139, n, 0, 0)) (by with_unfolding_all rfl) ?_
        have e142 : (i + Int32.ofInt 1).toInt = (j : Int) + 1 := mc_add hi (by decide) (by omega) (by omega)
        refine mc_lvs (lv' := [(0, .ref 542), (1, .int s), (2, .int b), (5, .int (i + Int32.ofInt 1))]) (by simp) ?_
        refine ih (j + 1) h139 (i + Int32.ofInt 1) (by omega) (by rw [e142]; omega) H140 (fun k' i' hk => by rw [w141, if_neg (fun q => hk q.1)]; exact hfr k' i' hk) (fun t ht => ?_)
        rw [mc_ri w141]
        by_cases e : t = j
        · rw [if_pos ⟨rfl, by rw [e]⟩, e]; exact hu
        · rw [if_neg (fun q => by have := q.2; omega)]; exact hz t (by omega)
      refine mc_ci hmi (c := .ne) (tg := 170) (pc' := 165) rfl rfl rfl e134 (by decide) (fun (q143 : ab_ri h' 545 ((j : Int)) ≠ 46) => ?_) (fun (q143 : ab_ri h' 545 ((j : Int)) = 46) => ?_)
      · refine mc_cx hmi 2 (F' := (172, [(0, .ref 542), (1, .int s), (2, .int b), (5, .int i)], [.ref 542, .ref 542, .int i, .ref 554], h', n, 0, 0)) (by with_unfolding_all rfl) ?_
        refine mc_getr hmi H' (k := 542) (c := 545) (pc' := 175) rfl rfl rfl rfl rfl ?_
        refine mc_cx hmi 1 (F' := (177, [(0, .ref 542), (1, .int s), (2, .int b), (5, .int i)], [.int i, .ref 545, .ref 542, .int i, .ref 554], h', n, 0, 0)) (by with_unfolding_all rfl) ?_
        refine mc_bald hmi H' (k := 545) (i := (j : Int)) (pc' := 178) rfl rfl rfl hi (by omega) (by omega) rfl (fun y144 e145 r146 r147 => ?_)
        rw [e145] at r146 r147
        refine mc_callP hmi (en := (178, .invokevirtual 116, 3, (3, 155, 11, 0), [1288, 76, 1286])) rfl (q := (mt_X11_signOf, [.ref 542, .int y144], [.int i, .ref 554])) (mc_inv H' (as := [.int y144]) (rest := [.int i, .ref 554]) rfl (by with_unfolding_all rfl) rfl rfl rfl) ⟨rfl, rfl⟩ (pc' := 181) rfl (mc_signOf hd H' y144) (fun y148 e149 => ?_)
        rw [e145, hpg] at e149
        have hne : ab_ri h 545 (j : Int) ≠ 46 := by rw [← hpg]; exact q143
        have hy : 0 ≤ y148.toInt ∧ y148.toInt ≤ 13 := e149.elim (fun q => q.2) (fun q => ((hok j (by omega)).elim (fun z => absurd z hne) (fun z => absurd z q.1)))
        exact k181 y148 hy.1 (by omega) ⟨fun q => by omega, fun q => absurd q hne⟩
      · refine mc_cx hmi 2 (F' := (181, [(0, .ref 542), (1, .int s), (2, .int b), (5, .int i)], [.int (Int8.ofInt 14).toInt32, .int i, .ref 554], h', n, 0, 0)) (by with_unfolding_all rfl) ?_
        exact k181 _ (by decide) (by decide) ⟨fun _ => by rw [← hpg]; exact q143, fun _ => by decide⟩
set_option maxRecDepth 100000 in
theorem mc_stone {l : Launch} {G : ax_T} {d : Nat} {h : ax_H} {n : Nat} (hd : 2 ≤ d) (H : mc_HW h n) : mc_M l G d mt_X11_stone [.ref 542] h n (fun r' h' n' => n' = n ∧ mc_HW h' n ∧ (∃ y : Int32, r' = some (.int y)) ∧ (∀ (k' : Nat) (i' : Int), k' ≠ 554 → (k' = 542 → i' ≠ 2) → (k' = 542 → i' ≠ 14) → (k' = 542 → i' ≠ 15) → ab_rd h' k' i' = ab_rd h k' i') ∧ (ab_gc h 554 (ab_ri h 542 14).toNat ≤ 3 → ab_gc h' 554 (ab_ri h' 542 14).toNat ≤ 3)) := by
  obtain ⟨d, rfl⟩ : ∃ e, d = e + 1 := ⟨d - 1, by omega⟩
  have hmi : mt_X11_stone ∈ mt_prog := List.mem_of_getElem? mi_X11_stone
  refine mc_to hmi rfl ?_
  show mc_R _ _ _ _ _ (0, [(0, .ref 542)], [], h, n, 0, 0)
  refine mc_cx hmi 1 (F' := (1, [(0, .ref 542)], [.ref 542], h, n, 0, 0)) (by with_unfolding_all rfl) ?_
  refine mc_geti hmi H (k := 542) (j := 2) (pc' := 4) rfl rfl rfl rfl (fun y150 (e151 : y150.toInt = ab_ri h 542 2) r152 r153 => ?_)
  rw [e151] at r152 r153
  refine mc_cx hmi 2 (F' := (6, [(1, .int y150), (0, .ref 542)], [.int y150], h, n, 0, 0)) (by with_unfolding_all rfl) ?_
  have hs80 : 0 ≤ y150.toInt ∧ y150.toInt ≤ 80 := by rw [e151]; exact ⟨by omega, by omega⟩
  have k27 : ∀ bb : Int32, (bb.toInt = 0 ∨ bb.toInt = 1 ∧ 1 ≤ y150.toInt) → mc_R l G mt_X11_stone d (fun r' h' n' => n' = n ∧ mc_HW h' n ∧ (∃ y : Int32, r' = some (.int y)) ∧ (∀ (k' : Nat) (i' : Int), k' ≠ 554 → (k' = 542 → i' ≠ 2) → (k' = 542 → i' ≠ 14) → (k' = 542 → i' ≠ 15) → ab_rd h' k' i' = ab_rd h k' i') ∧ (ab_gc h 554 (ab_ri h 542 14).toNat ≤ 3 → ab_gc h' 554 (ab_ri h' 542 14).toNat ≤ 3)) (27, [(1, .int y150), (0, .ref 542)], [.int bb], h, n, 0, 0) := by
    intro bb hb
    refine mc_cx hmi 3 (F' := (30, [(2, .int bb), (1, .int y150), (0, .ref 542)], [.int bb, .int y150], h, n, 0, 0)) (by with_unfolding_all rfl) ?_
    have k38 : ∀ v : Int32, v.toInt = bb.toInt → mc_R l G mt_X11_stone d (fun r' h' n' => n' = n ∧ mc_HW h' n ∧ (∃ y : Int32, r' = some (.int y)) ∧ (∀ (k' : Nat) (i' : Int), k' ≠ 554 → (k' = 542 → i' ≠ 2) → (k' = 542 → i' ≠ 14) → (k' = 542 → i' ≠ 15) → ab_rd h' k' i' = ab_rd h k' i') ∧ (ab_gc h 554 (ab_ri h 542 14).toNat ≤ 3 → ab_gc h' 554 (ab_ri h' 542 14).toNat ≤ 3)) (38, [(2, .int bb), (1, .int y150), (0, .ref 542)], [.int v, .int y150], h, n, 0, 0) := by
      intro v hv
      refine mc_cx hmi 7 (F' := (46, [(3, .int (Int32.ofInt 0)), (1, .int (y150 - v)), (2, .int bb), (0, .ref 542)], [.int (Int8.ofInt 20).toInt32, .int (Int32.ofInt 1), .int (y150 - v)], h, n, 0, 0)) (by with_unfolding_all rfl) ?_
      have e154 : (y150 - v).toInt = y150.toInt - bb.toInt := mc_sub rfl hv (by omega) (by omega)
      have hs2 : 0 ≤ (y150 - v).toInt ∧ (y150 - v).toInt ≤ 80 := by rw [e154]; omega
      generalize (y150 - v) = s at *
      refine mc_callP hmi (en := (46, .invokestatic 120, 3, (3, 152, 0, 0), [1291, 1290])) rfl (q := (mt_X11_in, [.int s, .int (Int32.ofInt 1), .int (Int8.ofInt 20).toInt32], [])) (by with_unfolding_all rfl) ⟨rfl, rfl⟩ (pc' := 49) rfl (mc_inP (by omega) s (Int32.ofInt 1) (Int8.ofInt 20).toInt32 _ _) (fun y155 e156 => ?_)
      have hq : y155.toInt = 0 ∨ y155.toInt = 1 ∧ 1 ≤ s.toInt ∧ s.toInt ≤ 20 := by
        have a1 : (Int32.ofInt 1).toInt = 1 := by decide
        have a2 : ((Int8.ofInt 20).toInt32).toInt = 20 := by decide
        omega
      refine mc_cx hmi 3 (F' := (54, [(5, .int (Int32.ofInt 0)), (4, .int y155), (3, .int (Int32.ofInt 0)), (1, .int s), (2, .int bb), (0, .ref 542)], [], h, n, 0, 0)) (by with_unfolding_all rfl) ?_
      refine mc_lvs (lv' := [(0, .ref 542), (1, .int s), (2, .int bb), (3, .int (Int32.ofInt 0)), (4, .int y155), (5, .int (Int32.ofInt 0))]) (by simp) ?_
      refine st_1 (by omega) H s bb hs2.2 (fun g q hinv => ?_) _ 0 _ y155 _ (Nat.le_refl _) rfl (Or.inl hs2.1) (by omega) (by decide) (by decide) (hq.elim Or.inl (fun z => Or.inr ⟨z.1, z.2.1, z.2.2, fun t ht => absurd ht (Nat.not_lt_zero t), rfl⟩))
      refine mc_cx hmi 1 (F' := (127, [(0, .ref 542), (1, .int s), (2, .int bb), (3, .int g), (4, .int q)], [.int q], h, n, 0, 0)) (by with_unfolding_all rfl) ?_
      refine mc_cz hmi (c := .eq) (tg := 135) (pc' := 130) rfl rfl rfl rfl (fun (q157 : q.toInt = 0) => ?_) (fun (q157 : q.toInt ≠ 0) => ?_)
      · refine mc_cx hmi 1 (F' := (137, [(0, .ref 542), (1, .int s), (2, .int bb), (3, .int g), (4, .int q)], [.int (Int8.ofInt (-103)).toInt32], h, n, 0, 0)) (by with_unfolding_all rfl) ?_
        exact mc_ret hmi rfl rfl rfl ⟨rfl, H, ⟨_, rfl⟩, fun _ _ _ _ _ _ => rfl, id⟩
      · obtain ⟨z1, z2, z3, z4, z5⟩ : q.toInt = 1 ∧ 1 ≤ s.toInt ∧ s.toInt ≤ 20 ∧ (∀ t : Nat, t < s.toInt.toNat → ab_ri h 545 (t : Int) = 46 ∨ ab_ri h 545 (t : Int) ∈ ab_let) ∧ g.toInt = (gq (ab_ri h 545) s.toInt.toNat : Int) := hinv.elim (fun z => absurd z q157) id
        refine mc_cx hmi 2 (F' := (132, [(0, .ref 542), (1, .int s), (2, .int bb), (3, .int g), (4, .int q)], [.int (Int32.ofInt 3), .int g], h, n, 0, 0)) (by with_unfolding_all rfl) ?_
        refine mc_ci hmi (c := .le) (tg := 138) (pc' := 135) rfl rfl rfl rfl (by decide) (fun (q158 : g.toInt ≤ 3) => ?_) (fun (q158 : 3 < g.toInt) => ?_)
        · refine mc_cx hmi 2 (F' := (141, [(5, .int (Int32.ofInt 0)), (0, .ref 542), (1, .int s), (2, .int bb), (3, .int g), (4, .int q)], [], h, n, 0, 0)) (by with_unfolding_all rfl) ?_
          refine mc_lvs (lv' := [(0, .ref 542), (1, .int s), (2, .int bb), (5, .int (Int32.ofInt 0))]) (by simp) ?_
          refine st_2 (h := h) (by omega) s bb (N := s.toInt.toNat) (by omega) (by omega) z4 (fun h2 H2 f2 g2 => ?_) s.toInt.toNat 0 h (Int32.ofInt 0) (Nat.zero_add _) rfl H (fun _ _ _ => rfl) (fun t ht => absurd ht (Nat.not_lt_zero t))
          refine mc_cx hmi 2 (F' := (190, [(0, .ref 542), (1, .int s), (2, .int bb)], [.int s, .ref 542], h2, n, 0, 0)) (by with_unfolding_all rfl) ?_
          refine mc_puti hmi H2 (k := 542) (j := 14) (pc' := 193) rfl rfl rfl rfl (by rw [show (s).toInt = s.toInt from rfl]; omega) (by rw [show (s).toInt = s.toInt from rfl]; omega) rfl (fun h159 H160 w161 => ?_)
          refine mc_cx hmi 2 (F' := (195, [(0, .ref 542), (1, .int s), (2, .int bb)], [.int bb, .ref 542], h159, n, 0, 0)) (by with_unfolding_all rfl) ?_
          refine mc_puti hmi H160 (k := 542) (j := 15) (pc' := 198) rfl rfl rfl rfl (by rw [show (bb).toInt = bb.toInt from rfl]; omega) (by rw [show (bb).toInt = bb.toInt from rfl]; omega) rfl (fun h162 H163 w164 => ?_)
          refine mc_cx hmi 2 (F' := (200, [(0, .ref 542), (1, .int s), (2, .int bb)], [.int (Int32.ofInt 0), .ref 542], h162, n, 0, 0)) (by with_unfolding_all rfl) ?_
          refine mc_puti hmi H163 (k := 542) (j := 2) (pc' := 203) rfl rfl rfl rfl (by rw [show ((Int32.ofInt 0)).toInt = 0 from by decide]; omega) (by rw [show ((Int32.ofInt 0)).toInt = 0 from by decide]; omega) rfl (fun h165 H166 w167 => ?_)
          refine mc_cx hmi 1 (F' := (204, [(0, .ref 542), (1, .int s), (2, .int bb)], [.int s], h165, n, 0, 0)) (by with_unfolding_all rfl) ?_
          refine mc_ret hmi rfl rfl rfl ⟨rfl, H166, ⟨_, rfl⟩, fun k' i' p1 p2 p3 p4 => ?_, fun _ => ?_⟩
          · rw [w167, if_neg (fun q => p2 q.1 q.2), w164, if_neg (fun q => p4 q.1 q.2), w161, if_neg (fun q => p3 q.1 q.2)]; exact f2 k' i' p1
          · have e1 : ab_ri h165 542 14 = s.toInt := by rw [mc_ri w167, if_neg (fun q => absurd q.2 (by decide)), mc_ri w164, if_neg (fun q => absurd q.2 (by decide)), mc_ri w161, if_pos ⟨rfl, rfl⟩]
            rw [e1, gc_gq (f := ab_ri h 545) s.toInt.toNat (fun t ht => by rw [mc_ri w167, if_neg (fun q => absurd q.1 (by decide)), mc_ri w164, if_neg (fun q => absurd q.1 (by decide)), mc_ri w161, if_neg (fun q => absurd q.1 (by decide))]; exact g2 t ht)]
            omega
        · refine mc_cx hmi 1 (F' := (137, [(0, .ref 542), (1, .int s), (2, .int bb), (3, .int g), (4, .int q)], [.int (Int8.ofInt (-103)).toInt32], h, n, 0, 0)) (by with_unfolding_all rfl) ?_
          exact mc_ret hmi rfl rfl rfl ⟨rfl, H, ⟨_, rfl⟩, fun _ _ _ _ _ _ => rfl, id⟩
    refine mc_cz hmi (c := .eq) (tg := 37) (pc' := 33) rfl rfl rfl rfl (fun (q168 : bb.toInt = 0) => ?_) (fun (q168 : bb.toInt ≠ 0) => ?_)
    · refine mc_cx hmi 1 (F' := (38, [(2, .int bb), (1, .int y150), (0, .ref 542)], [.int (Int32.ofInt 0), .int y150], h, n, 0, 0)) (by with_unfolding_all rfl) ?_
      exact k38 _ (by rw [q168]; decide)
    · refine mc_cx hmi 2 (F' := (38, [(2, .int bb), (1, .int y150), (0, .ref 542)], [.int (Int32.ofInt 1), .int y150], h, n, 0, 0)) (by with_unfolding_all rfl) ?_
      exact k38 _ (by rw [show bb.toInt = 1 from hb.elim (fun z => absurd z q168) (fun z => z.1)]; decide)
  refine mc_cz hmi (c := .le) (tg := 26) (pc' := 9) rfl rfl rfl rfl (fun (q169 : y150.toInt ≤ 0) => ?_) (fun (q169 : 0 < y150.toInt) => ?_)
  · refine mc_cx hmi 1 (F' := (27, [(1, .int y150), (0, .ref 542)], [.int (Int32.ofInt 0)], h, n, 0, 0)) (by with_unfolding_all rfl) ?_
    exact k27 _ (Or.inl (by decide))
  · refine mc_cx hmi 1 (F' := (10, [(1, .int y150), (0, .ref 542)], [.ref 542], h, n, 0, 0)) (by with_unfolding_all rfl) ?_
    refine mc_getr hmi H (k := 542) (c := 545) (pc' := 13) rfl rfl rfl rfl rfl ?_
    refine mc_cx hmi 3 (F' := (16, [(1, .int y150), (0, .ref 542)], [.int (y150 - (Int32.ofInt 1)), .ref 545], h, n, 0, 0)) (by with_unfolding_all rfl) ?_
    have e170 : (y150 - (Int32.ofInt 1)).toInt = y150.toInt - 1 := mc_sub rfl (by decide) (by omega) (by omega)
    refine mc_bald hmi H (k := 545) (i := (y150.toInt - 1)) (pc' := 17) rfl rfl rfl e170 (by omega) (by omega) rfl (fun y171 e172 r173 r174 => ?_)
    rw [e172] at r173 r174
    refine mc_cx hmi 1 (F' := (19, [(1, .int y150), (0, .ref 542)], [.int (Int8.ofInt 42).toInt32, .int y171], h, n, 0, 0)) (by with_unfolding_all rfl) ?_
    refine mc_ci hmi (c := .ne) (tg := 26) (pc' := 22) rfl rfl rfl e172 (by decide) (fun (q175 : ab_ri h 545 ((y150.toInt - 1)) ≠ 42) => ?_) (fun (q175 : ab_ri h 545 ((y150.toInt - 1)) = 42) => ?_)
    · refine mc_cx hmi 1 (F' := (27, [(1, .int y150), (0, .ref 542)], [.int (Int32.ofInt 0)], h, n, 0, 0)) (by with_unfolding_all rfl) ?_
      exact k27 _ (Or.inl (by decide))
    · refine mc_cx hmi 2 (F' := (27, [(1, .int y150), (0, .ref 542)], [.int (Int32.ofInt 1)], h, n, 0, 0)) (by with_unfolding_all rfl) ?_
      exact k27 _ (Or.inr ⟨by decide, by omega⟩)
end
section
/-! ===== by hand: the stone in the class, given signOf (ways printed by wip/hand/h_stone2.py) ===== -/
-- signOf of the class
def SGN (l : Launch) (G : ax_T) : Prop := ∀ (d : Nat) (h : ax_H) (n : Nat) (x : Int32), 9 ≤ d → ab_J h ∨ True → mc_HW h n → 0 ≤ x.toInt → x.toInt ≤ 255 → mc_M l G d mt_X10_signOf [.int x] h n (mc_P h n fun y => (x.toInt ∈ ab_let ∧ 0 ≤ y.toInt ∧ y.toInt ≤ 13) ∨ (x.toInt ∉ ab_let ∧ y.toInt = -1))
def PO (h : ax_H) : Int := if 0 < ab_ri h 1 1 ∧ ab_ri h 2 (ab_ri h 1 1 - 1) = 42 then ab_ri h 1 1 - 1 else ab_ri h 1 1
set_option maxRecDepth 100000 in
theorem mc_placesOn {l : Launch} {G : ax_T} {d : Nat} {h : ax_H} {n : Nat} (hd : 1 ≤ d) (H : mc_HW h n) : mc_M l G d mt_X7_placesOn [.ref 1] h n (mc_P h n fun y => y.toInt = PO h) := by
  obtain ⟨d, rfl⟩ : ∃ e, d = e + 1 := ⟨d - 1, by omega⟩
  have hmi : mt_X7_placesOn ∈ mt_prog := List.mem_of_getElem? mi_X7_placesOn
  refine mc_to hmi rfl ?_
  show mc_R _ _ _ _ _ (0, [(0, .ref 1)], [], h, n, 0, 0)
  have hlen := mc_frng H (k := 1) (j := 1) (ci := 4) rfl rfl
  have k28 : ∀ u : Int32, (u.toInt ≠ 0 ↔ 0 < ab_ri h 1 1 ∧ ab_ri h 2 (ab_ri h 1 1 - 1) = 42) → mc_R l G mt_X7_placesOn d (mc_P h n fun y => y.toInt = PO h) (28, [(0, .ref 1)], [.int u], h, n, 0, 0) := by
    intro u hu
    refine mc_cx hmi 2 (F' := (30, [(1, .int u), (0, .ref 1)], [.int u], h, n, 0, 0)) (by with_unfolding_all rfl) ?_
    refine mc_cz hmi (c := .eq) (tg := 42) (pc' := 33) rfl rfl rfl rfl (fun (q101 : u.toInt = 0) => ?_) (fun (q101 : u.toInt ≠ 0) => ?_)
    · refine mc_cx hmi 1 (F' := (43, [(1, .int u), (0, .ref 1)], [.ref 1], h, n, 0, 0)) (by with_unfolding_all rfl) ?_
      refine mc_geti hmi H (k := 1) (j := 1) (pc' := 46) rfl rfl rfl rfl (fun y102 (e103 : y102.toInt = ab_ri h 1 1) r104 r105 => ?_)
      rw [e103] at r104 r105
      refine mc_ret hmi rfl rfl rfl ⟨rfl, rfl, _, rfl, ?_⟩
      unfold PO; rw [if_neg (fun z => hu.mpr z q101)]; exact e103
    · have hb := hu.mp q101
      refine mc_cx hmi 1 (F' := (34, [(1, .int u), (0, .ref 1)], [.ref 1], h, n, 0, 0)) (by with_unfolding_all rfl) ?_
      refine mc_geti hmi H (k := 1) (j := 1) (pc' := 37) rfl rfl rfl rfl (fun y106 (e107 : y106.toInt = ab_ri h 1 1) r108 r109 => ?_)
      rw [e107] at r108 r109
      refine mc_cx hmi 3 (F' := (46, [(1, .int u), (0, .ref 1)], [.int (y106 - (Int32.ofInt 1))], h, n, 0, 0)) (by with_unfolding_all rfl) ?_
      have e110 : (y106 - (Int32.ofInt 1)).toInt = ab_ri h 1 1 - 1 := mc_sub e107 (by decide) (by omega) (by omega)
      refine mc_ret hmi rfl rfl rfl ⟨rfl, rfl, _, rfl, ?_⟩
      unfold PO; rw [if_pos hb]; exact e110
  refine mc_cx hmi 1 (F' := (1, [(0, .ref 1)], [.ref 1], h, n, 0, 0)) (by with_unfolding_all rfl) ?_
  refine mc_geti hmi H (k := 1) (j := 1) (pc' := 4) rfl rfl rfl rfl (fun y111 (e112 : y111.toInt = ab_ri h 1 1) r113 r114 => ?_)
  rw [e112] at r113 r114
  refine mc_cz hmi (c := .le) (tg := 27) (pc' := 7) rfl rfl rfl e112 (fun (q115 : ab_ri h 1 1 ≤ 0) => ?_) (fun (q115 : 0 < ab_ri h 1 1) => ?_)
  · refine mc_cx hmi 1 (F' := (28, [(0, .ref 1)], [.int (Int32.ofInt 0)], h, n, 0, 0)) (by with_unfolding_all rfl) ?_
    exact k28 _ ⟨fun q => absurd (by decide) q, fun q => by omega⟩
  · refine mc_cx hmi 1 (F' := (8, [(0, .ref 1)], [.ref 1], h, n, 0, 0)) (by with_unfolding_all rfl) ?_
    refine mc_getr hmi H (k := 1) (c := 2) (pc' := 11) rfl rfl rfl rfl rfl ?_
    refine mc_cx hmi 1 (F' := (12, [(0, .ref 1)], [.ref 1, .ref 2], h, n, 0, 0)) (by with_unfolding_all rfl) ?_
    refine mc_geti hmi H (k := 1) (j := 1) (pc' := 15) rfl rfl rfl rfl (fun y116 (e117 : y116.toInt = ab_ri h 1 1) r118 r119 => ?_)
    rw [e117] at r118 r119
    refine mc_cx hmi 2 (F' := (17, [(0, .ref 1)], [.int (y116 - (Int32.ofInt 1)), .ref 2], h, n, 0, 0)) (by with_unfolding_all rfl) ?_
    have e120 : (y116 - (Int32.ofInt 1)).toInt = ab_ri h 1 1 - 1 := mc_sub e117 (by decide) (by omega) (by omega)
    refine mc_iald hmi H (k := 2) (i := (ab_ri h 1 1 - 1)) (pc' := 18) rfl rfl rfl e120 (by omega) (by omega) rfl (fun y121 e122 r123 r124 => ?_)
    rw [e122] at r123 r124
    refine mc_cx hmi 1 (F' := (20, [(0, .ref 1)], [.int (Int8.ofInt 42).toInt32, .int y121], h, n, 0, 0)) (by with_unfolding_all rfl) ?_
    refine mc_ci hmi (c := .ne) (tg := 27) (pc' := 23) rfl rfl rfl e122 (by decide) (fun (q125 : ab_ri h 2 ((ab_ri h 1 1 - 1)) ≠ 42) => ?_) (fun (q125 : ab_ri h 2 ((ab_ri h 1 1 - 1)) = 42) => ?_)
    · refine mc_cx hmi 1 (F' := (28, [(0, .ref 1)], [.int (Int32.ofInt 0)], h, n, 0, 0)) (by with_unfolding_all rfl) ?_
      exact k28 _ ⟨fun q => absurd (by decide) q, fun q => absurd q.2 q125⟩
    · refine mc_cx hmi 2 (F' := (28, [(0, .ref 1)], [.int (Int32.ofInt 1)], h, n, 0, 0)) (by with_unfolding_all rfl) ?_
      exact k28 _ ⟨fun _ => ⟨by omega, q125⟩, fun _ => by decide⟩
set_option maxRecDepth 100000 in
theorem is_loop {l : Launch} {G : ax_T} {d : Nat} {h : ax_H} {n : Nat} (HS : SGN l G) (hd : 9 ≤ d) (H : mc_HW h n) (s : Int32) (hs : s.toInt = PO h) (h1 : 1 ≤ PO h) (h20 : PO h ≤ 20) : ∀ (c j : Nat) (g i : Int32), (j : Int) + (c : Int) = PO h → i.toInt = (j : Int) → g.toInt = (gq (ab_ri h 2) j : Int) → (∀ t : Nat, t < j → ab_ri h 2 (t : Int) = 46 ∨ ab_ri h 2 (t : Int) ∈ ab_let) → mc_R l G mt_X7_isStone d (mc_P h n fun y => y.toInt = 0 ∨ y.toInt = 1 ∧ (1 ≤ PO h ∧ PO h ≤ 20 ∧ (∀ t : Nat, t < (PO h).toNat → ab_ri h 2 (t : Int) = 46 ∨ ab_ri h 2 (t : Int) ∈ ab_let) ∧ gq (ab_ri h 2) (PO h).toNat ≤ 3)) (22, [(0, .ref 1), (1, .int s), (2, .int g), (3, .int i)], [], h, n, 0, 0) := by
  have hmi : mt_X7_isStone ∈ mt_prog := List.mem_of_getElem? mi_X7_isStone
  intro c
  induction c with
  | zero =>
    intro j g i hj hi hg hok
    have hgl := gq_le (ab_ri h 2) j
    refine mc_cx hmi 2 (F' := (24, [(0, .ref 1), (1, .int s), (2, .int g), (3, .int i)], [.int s, .int i], h, n, 0, 0)) (by with_unfolding_all rfl) ?_
    refine mc_ci hmi (c := .ge) (tg := 64) (pc' := 27) rfl rfl rfl hi hs (fun (q126 : (PO h) ≤ (j : Int)) => ?_) (fun (q126 : (j : Int) < (PO h)) => ?_)
    · have e : j = (PO h).toNat := by omega
      rw [e] at hg hok
      refine mc_cx hmi 2 (F' := (66, [(0, .ref 1), (1, .int s), (2, .int g), (3, .int i)], [.int (Int32.ofInt 3), .int g], h, n, 0, 0)) (by with_unfolding_all rfl) ?_
      refine mc_ci hmi (c := .gt) (tg := 73) (pc' := 69) rfl rfl rfl hg (by decide) (fun (q127 : 3 < (gq (ab_ri h 2) (PO h).toNat : Int)) => ?_) (fun (q127 : (gq (ab_ri h 2) (PO h).toNat : Int) ≤ 3) => ?_)
      · refine mc_cx hmi 1 (F' := (74, [(0, .ref 1), (1, .int s), (2, .int g), (3, .int i)], [.int (Int32.ofInt 0)], h, n, 0, 0)) (by with_unfolding_all rfl) ?_
        exact mc_ret hmi rfl rfl (mc_rb (by decide)) ⟨rfl, rfl, _, rfl, Or.inl (by decide)⟩
      · refine mc_cx hmi 2 (F' := (74, [(0, .ref 1), (1, .int s), (2, .int g), (3, .int i)], [.int (Int32.ofInt 1)], h, n, 0, 0)) (by with_unfolding_all rfl) ?_
        exact mc_ret hmi rfl rfl (mc_rb (by decide)) ⟨rfl, rfl, _, rfl, Or.inr ⟨by decide, h1, h20, hok, by omega⟩⟩
    · exact absurd q126 (by omega)
  | succ c ih =>
    intro j g i hj hi hg hok
    have hgl := gq_le (ab_ri h 2) j
    refine mc_cx hmi 2 (F' := (24, [(0, .ref 1), (1, .int s), (2, .int g), (3, .int i)], [.int s, .int i], h, n, 0, 0)) (by with_unfolding_all rfl) ?_
    refine mc_ci hmi (c := .ge) (tg := 64) (pc' := 27) rfl rfl rfl hi hs (fun (q128 : (PO h) ≤ (j : Int)) => ?_) (fun (q128 : (j : Int) < (PO h)) => ?_)
    · exact absurd q128 (by omega)
    · have k58 : ∀ v : Int32, v.toInt = (gq (ab_ri h 2) (j + 1) : Int) → (ab_ri h 2 (j : Int) = 46 ∨ ab_ri h 2 (j : Int) ∈ ab_let) → mc_R l G mt_X7_isStone d (mc_P h n fun y => y.toInt = 0 ∨ y.toInt = 1 ∧ (1 ≤ PO h ∧ PO h ≤ 20 ∧ (∀ t : Nat, t < (PO h).toNat → ab_ri h 2 (t : Int) = 46 ∨ ab_ri h 2 (t : Int) ∈ ab_let) ∧ gq (ab_ri h 2) (PO h).toNat ≤ 3)) (58, [(0, .ref 1), (1, .int s), (2, .int v), (3, .int i)], [], h, n, 0, 0) := by
        intro v hv hl
        refine mc_cx hmi 2 (F' := (22, [(3, .int (i + Int32.ofInt 1)), (0, .ref 1), (1, .int s), (2, .int v)], [], h, n, 0, 0)) (by with_unfolding_all rfl) ?_
        have e129 : (i + Int32.ofInt 1).toInt = (j : Int) + 1 := mc_add hi (by decide) (by omega) (by omega)
        refine mc_lvs (lv' := [(0, .ref 1), (1, .int s), (2, .int v), (3, .int (i + Int32.ofInt 1))]) (by simp) ?_
        refine ih (j + 1) v (i + Int32.ofInt 1) (by omega) (by rw [e129]; omega) hv (fun t ht => ?_)
        by_cases e : t = j
        · rw [e]; exact hl
        · exact hok t (by omega)
      have hge : gq (ab_ri h 2) (j + 1) = gq (ab_ri h 2) j + (if ab_ri h 2 (j : Int) = 46 then 1 else 0) := rfl
      refine mc_cx hmi 1 (F' := (28, [(0, .ref 1), (1, .int s), (2, .int g), (3, .int i)], [.ref 1], h, n, 0, 0)) (by with_unfolding_all rfl) ?_
      refine mc_getr hmi H (k := 1) (c := 2) (pc' := 31) rfl rfl rfl rfl rfl ?_
      refine mc_cx hmi 1 (F' := (32, [(0, .ref 1), (1, .int s), (2, .int g), (3, .int i)], [.int i, .ref 2], h, n, 0, 0)) (by with_unfolding_all rfl) ?_
      refine mc_iald hmi H (k := 2) (i := (j : Int)) (pc' := 33) rfl rfl rfl hi (by omega) (by omega) rfl (fun y130 e131 r132 r133 => ?_)
      rw [e131] at r132 r133
      refine mc_cx hmi 1 (F' := (35, [(0, .ref 1), (1, .int s), (2, .int g), (3, .int i)], [.int (Int8.ofInt 46).toInt32, .int y130], h, n, 0, 0)) (by with_unfolding_all rfl) ?_
      refine mc_ci hmi (c := .ne) (tg := 44) (pc' := 38) rfl rfl rfl e131 (by decide) (fun (q134 : ab_ri h 2 ((j : Int)) ≠ 46) => ?_) (fun (q134 : ab_ri h 2 ((j : Int)) = 46) => ?_)
      · rw [if_neg q134] at hge
        refine mc_cx hmi 1 (F' := (45, [(0, .ref 1), (1, .int s), (2, .int g), (3, .int i)], [.ref 1], h, n, 0, 0)) (by with_unfolding_all rfl) ?_
        refine mc_getr hmi H (k := 1) (c := 2) (pc' := 48) rfl rfl rfl rfl rfl ?_
        refine mc_cx hmi 1 (F' := (49, [(0, .ref 1), (1, .int s), (2, .int g), (3, .int i)], [.int i, .ref 2], h, n, 0, 0)) (by with_unfolding_all rfl) ?_
        refine mc_iald hmi H (k := 2) (i := (j : Int)) (pc' := 50) rfl rfl rfl hi (by omega) (by omega) rfl (fun y136 e137 r138 r139 => ?_)
        rw [e137] at r138 r139
        refine mc_callP hmi (en := (50, .invokestatic 56, 3, (4, 150, 0, 0), [497, 927])) rfl (q := (mt_X10_signOf, [.int y136], [])) (by with_unfolding_all rfl) ⟨rfl, rfl⟩ (pc' := 53) rfl (HS _ h n y136 hd (Or.inr trivial) H (by omega) (by omega)) (fun y140 e141 => ?_)
        rw [e137] at e141
        refine mc_cz hmi (c := .ge) (tg := 58) (pc' := 56) rfl rfl rfl rfl (fun (q142 : 0 ≤ y140.toInt) => ?_) (fun (q142 : y140.toInt < 0) => ?_)
        · exact k58 g (by omega) (Or.inr (e141.elim (fun q => q.1) (fun q => by omega)))
        · refine mc_cx hmi 1 (F' := (57, [(0, .ref 1), (1, .int s), (2, .int g), (3, .int i)], [.int (Int32.ofInt 0)], h, n, 0, 0)) (by with_unfolding_all rfl) ?_
          exact mc_ret hmi rfl rfl (mc_rb (by decide)) ⟨rfl, rfl, _, rfl, Or.inl (by decide)⟩
      · rw [if_pos q134] at hge
        refine mc_cx hmi 2 (F' := (58, [(2, .int (g + Int32.ofInt 1)), (0, .ref 1), (1, .int s), (3, .int i)], [], h, n, 0, 0)) (by with_unfolding_all rfl) ?_
        have e135 : (g + Int32.ofInt 1).toInt = (gq (ab_ri h 2) j : Int) + 1 := mc_add hg (by decide) (by omega) (by omega)
        refine mc_lvs (lv' := [(0, .ref 1), (1, .int s), (2, .int (g + Int32.ofInt 1)), (3, .int i)]) (by simp) ?_
        exact k58 (g + Int32.ofInt 1) (by rw [e135]; omega) (Or.inl q134)
set_option maxRecDepth 100000 in
theorem mc_isStone {l : Launch} {G : ax_T} {d : Nat} {h : ax_H} {n : Nat} (HS : SGN l G) (hd : 10 ≤ d) (H : mc_HW h n) : mc_M l G d mt_X7_isStone [.ref 1] h n (mc_P h n fun y => y.toInt = 0 ∨ y.toInt = 1 ∧ (1 ≤ PO h ∧ PO h ≤ 20 ∧ (∀ t : Nat, t < (PO h).toNat → ab_ri h 2 (t : Int) = 46 ∨ ab_ri h 2 (t : Int) ∈ ab_let) ∧ gq (ab_ri h 2) (PO h).toNat ≤ 3)) := by
  obtain ⟨d, rfl⟩ : ∃ e, d = e + 1 := ⟨d - 1, by omega⟩
  have hmi : mt_X7_isStone ∈ mt_prog := List.mem_of_getElem? mi_X7_isStone
  refine mc_to hmi rfl ?_
  show mc_R _ _ _ _ _ (0, [(0, .ref 1)], [], h, n, 0, 0)
  refine mc_cx hmi 1 (F' := (1, [(0, .ref 1)], [.ref 1], h, n, 0, 0)) (by with_unfolding_all rfl) ?_
  refine mc_callP hmi (en := (1, .invokestatic 52, 3, (3, 73, 0, 0), [925, 924])) rfl (q := (mt_X7_placesOn, [.ref 1], [])) (by with_unfolding_all rfl) ⟨rfl, rfl⟩ (pc' := 4) rfl (mc_placesOn (by omega) H) (fun y143 e144 => ?_)
  refine mc_cx hmi 3 (F' := (7, [(1, .int y143), (0, .ref 1)], [.int (Int32.ofInt 1), .int y143], h, n, 0, 0)) (by with_unfolding_all rfl) ?_
  have no : mc_R l G mt_X7_isStone d (mc_P h n fun y => y.toInt = 0 ∨ y.toInt = 1 ∧ (1 ≤ PO h ∧ PO h ≤ 20 ∧ (∀ t : Nat, t < (PO h).toNat → ab_ri h 2 (t : Int) = 46 ∨ ab_ri h 2 (t : Int) ∈ ab_let) ∧ gq (ab_ri h 2) (PO h).toNat ≤ 3)) (16, [(1, .int y143), (0, .ref 1)], [], h, n, 0, 0) := by
    refine mc_cx hmi 1 (F' := (17, [(1, .int y143), (0, .ref 1)], [.int (Int32.ofInt 0)], h, n, 0, 0)) (by with_unfolding_all rfl) ?_
    exact mc_ret hmi rfl rfl (mc_rb (by decide)) ⟨rfl, rfl, _, rfl, Or.inl (by decide)⟩
  refine mc_ci hmi (c := .lt) (tg := 16) (pc' := 10) rfl rfl rfl e144 (by decide) (fun (q145 : (PO h) < 1) => ?_) (fun (q145 : 1 ≤ (PO h)) => ?_)
  · exact no
  · refine mc_cx hmi 2 (F' := (13, [(1, .int y143), (0, .ref 1)], [.int (Int8.ofInt 20).toInt32, .int y143], h, n, 0, 0)) (by with_unfolding_all rfl) ?_
    refine mc_ci hmi (c := .le) (tg := 18) (pc' := 16) rfl rfl rfl e144 (by decide) (fun (q146 : (PO h) ≤ 20) => ?_) (fun (q146 : 20 < (PO h)) => ?_)
    · refine mc_cx hmi 4 (F' := (22, [(3, .int (Int32.ofInt 0)), (2, .int (Int32.ofInt 0)), (1, .int y143), (0, .ref 1)], [], h, n, 0, 0)) (by with_unfolding_all rfl) ?_
      refine mc_lvs (lv' := [(0, .ref 1), (1, .int y143), (2, .int (Int32.ofInt 0)), (3, .int (Int32.ofInt 0))]) (by simp) ?_
      exact is_loop HS (by omega) H y143 e144 q145 q146 (PO h).toNat 0 _ _ (by omega) rfl rfl (fun t ht => absurd ht (Nat.not_lt_zero t))
    · exact no
set_option maxRecDepth 100000 in
theorem cv_loop {l : Launch} {G : ax_T} {d : Nat} {Q : Option Value → ax_H → Nat → Prop} {h : ax_H} {n : Nat} (HS : SGN l G) (hd : 9 ≤ d) {N : Nat} (hs : ab_ri h 28 1 = (N : Int)) (hN : N ≤ 20) (hok : (∀ t : Nat, t < N → ab_ri h 2 (t : Int) = 46 ∨ ab_ri h 2 (t : Int) ∈ ab_let)) (kk : ∀ h' : ax_H, mc_HW h' n → (∀ (k' : Nat) (i' : Int), k' ≠ 29 → ab_rd h' k' i' = ab_rd h k' i') → (∀ t : Nat, t < N → (ab_ri h' 29 (t : Int) = 14 ↔ ab_ri h 2 (t : Int) = 46)) → mc_R l G mt_X7_carve d Q (63, [(0, .ref 28), (1, .ref 1)], [], h', n, 0, 0)) : ∀ (c j : Nat) (h' : ax_H) (i : Int32), j + c = N → i.toInt = (j : Int) → mc_HW h' n → (∀ (k' : Nat) (i' : Int), k' ≠ 29 → ab_rd h' k' i' = ab_rd h k' i') → (∀ t : Nat, t < j → (ab_ri h' 29 (t : Int) = 14 ↔ ab_ri h 2 (t : Int) = 46)) → mc_R l G mt_X7_carve d Q (18, [(0, .ref 28), (1, .ref 1), (2, .int i)], [], h', n, 0, 0) := by
  have hmi : mt_X7_carve ∈ mt_prog := List.mem_of_getElem? mi_X7_carve
  intro c
  induction c with
  | zero =>
    intro j h' i hj hi H' hfr hz
    have hpl : ab_ri h' 28 1 = (N : Int) := by rw [ab_ri_of (hfr 28 1 (by decide))]; exact hs
    refine mc_cx hmi 2 (F' := (20, [(0, .ref 28), (1, .ref 1), (2, .int i)], [.ref 28, .int i], h', n, 0, 0)) (by with_unfolding_all rfl) ?_
    refine mc_geti hmi H' (k := 28) (j := 1) (pc' := 23) rfl rfl rfl rfl (fun y147 (e148 : y147.toInt = ab_ri h' 28 1) r149 r150 => ?_)
    rw [e148] at r149 r150
    refine mc_ci hmi (c := .ge) (tg := 63) (pc' := 26) rfl rfl rfl hi e148 (fun (q151 : ab_ri h' 28 1 ≤ (j : Int)) => ?_) (fun (q151 : (j : Int) < ab_ri h' 28 1) => ?_)
    · refine mc_lvs (lv' := [(0, .ref 28), (1, .ref 1)]) (by simp) ?_
      have e : j = N := by omega
      rw [e] at hz
      exact kk h' H' hfr hz
    · exact absurd q151 (by omega)
  | succ c ih =>
    intro j h' i hj hi H' hfr hz
    have hpl : ab_ri h' 28 1 = (N : Int) := by rw [ab_ri_of (hfr 28 1 (by decide))]; exact hs
    refine mc_cx hmi 2 (F' := (20, [(0, .ref 28), (1, .ref 1), (2, .int i)], [.ref 28, .int i], h', n, 0, 0)) (by with_unfolding_all rfl) ?_
    refine mc_geti hmi H' (k := 28) (j := 1) (pc' := 23) rfl rfl rfl rfl (fun y152 (e153 : y152.toInt = ab_ri h' 28 1) r154 r155 => ?_)
    rw [e153] at r154 r155
    refine mc_ci hmi (c := .ge) (tg := 63) (pc' := 26) rfl rfl rfl hi e153 (fun (q156 : ab_ri h' 28 1 ≤ (j : Int)) => ?_) (fun (q156 : (j : Int) < ab_ri h' 28 1) => ?_)
    · exact absurd q156 (by omega)
    · have hpg : ab_ri h' 2 (j : Int) = ab_ri h 2 (j : Int) := ab_ri_of (hfr 2 _ (by decide))
      refine mc_cx hmi 1 (F' := (27, [(0, .ref 28), (1, .ref 1), (2, .int i)], [.ref 28], h', n, 0, 0)) (by with_unfolding_all rfl) ?_
      refine mc_getr hmi H' (k := 28) (c := 29) (pc' := 30) rfl rfl rfl rfl rfl ?_
      refine mc_cx hmi 2 (F' := (32, [(0, .ref 28), (1, .ref 1), (2, .int i)], [.ref 1, .int i, .ref 29], h', n, 0, 0)) (by with_unfolding_all rfl) ?_
      refine mc_getr hmi H' (k := 1) (c := 2) (pc' := 35) rfl rfl rfl rfl rfl ?_
      refine mc_cx hmi 1 (F' := (36, [(0, .ref 28), (1, .ref 1), (2, .int i)], [.int i, .ref 2, .int i, .ref 29], h', n, 0, 0)) (by with_unfolding_all rfl) ?_
      refine mc_iald hmi H' (k := 2) (i := (j : Int)) (pc' := 37) rfl rfl rfl hi (by omega) (by omega) rfl (fun y157 e158 r159 r160 => ?_)
      rw [e158] at r159 r160
      refine mc_cx hmi 1 (F' := (39, [(0, .ref 28), (1, .ref 1), (2, .int i)], [.int (Int8.ofInt 46).toInt32, .int y157, .int i, .ref 29], h', n, 0, 0)) (by with_unfolding_all rfl) ?_
      have k56 : ∀ u : Int32, 0 ≤ u.toInt → u.toInt ≤ 14 → (u.toInt = 14 ↔ ab_ri h 2 (j : Int) = 46) → mc_R l G mt_X7_carve d Q (56, [(0, .ref 28), (1, .ref 1), (2, .int i)], [.int u, .int i, .ref 29], h', n, 0, 0) := by
        intro u hu0 hu1 hu
        have b161 := Int32.le_toInt (u)
        have b162 := Int32.toInt_lt (u)
        refine mc_iast hmi H' (k := 29) (i := (j : Int)) (pc' := 57) rfl rfl rfl hi (by omega) (by omega) (by rw [show (u).toInt = u.toInt from rfl]; omega) (by rw [show (u).toInt = u.toInt from rfl]; omega) rfl (fun h163 H164 w165 => ?_)
        refine mc_cx hmi 2 (F' := (18, [(2, .int (i + Int32.ofInt 1)), (0, .ref 28), (1, .ref 1)], [], h163, n, 0, 0)) (by with_unfolding_all rfl) ?_
        have e166 : (i + Int32.ofInt 1).toInt = (j : Int) + 1 := mc_add hi (by decide) (by omega) (by omega)
        refine mc_lvs (lv' := [(0, .ref 28), (1, .ref 1), (2, .int (i + Int32.ofInt 1))]) (by simp) ?_
        refine ih (j + 1) h163 (i + Int32.ofInt 1) (by omega) (by rw [e166]; omega) H164 (fun k' i' hk => by rw [w165, if_neg (fun q => hk q.1)]; exact hfr k' i' hk) (fun t ht => ?_)
        rw [mc_ri w165]
        by_cases e : t = j
        · rw [if_pos ⟨rfl, by rw [e]⟩, e]; exact hu
        · rw [if_neg (fun q => by have := q.2; omega)]; exact hz t (by omega)
      refine mc_ci hmi (c := .ne) (tg := 47) (pc' := 42) rfl rfl rfl e158 (by decide) (fun (q167 : ab_ri h' 2 ((j : Int)) ≠ 46) => ?_) (fun (q167 : ab_ri h' 2 ((j : Int)) = 46) => ?_)
      · refine mc_cx hmi 1 (F' := (48, [(0, .ref 28), (1, .ref 1), (2, .int i)], [.ref 1, .int i, .ref 29], h', n, 0, 0)) (by with_unfolding_all rfl) ?_
        refine mc_getr hmi H' (k := 1) (c := 2) (pc' := 51) rfl rfl rfl rfl rfl ?_
        refine mc_cx hmi 1 (F' := (52, [(0, .ref 28), (1, .ref 1), (2, .int i)], [.int i, .ref 2, .int i, .ref 29], h', n, 0, 0)) (by with_unfolding_all rfl) ?_
        refine mc_iald hmi H' (k := 2) (i := (j : Int)) (pc' := 53) rfl rfl rfl hi (by omega) (by omega) rfl (fun y168 e169 r170 r171 => ?_)
        rw [e169] at r170 r171
        refine mc_callP hmi (en := (53, .invokestatic 56, 3, (4, 150, 0, 0), [497, 927])) rfl (q := (mt_X10_signOf, [.int y168], [.int i, .ref 29])) (by with_unfolding_all rfl) ⟨rfl, rfl⟩ (pc' := 56) rfl (HS _ h' n y168 hd (Or.inr trivial) H' (by omega) (by omega)) (fun y172 e173 => ?_)
        rw [e169, hpg] at e173
        have hne : ab_ri h 2 (j : Int) ≠ 46 := by rw [← hpg]; exact q167
        have hy : 0 ≤ y172.toInt ∧ y172.toInt ≤ 13 := e173.elim (fun q => q.2) (fun q => ((hok j (by omega)).elim (fun z => absurd z hne) (fun z => absurd z q.1)))
        exact k56 y172 hy.1 (by omega) ⟨fun q => by omega, fun q => absurd q hne⟩
      · refine mc_cx hmi 2 (F' := (56, [(0, .ref 28), (1, .ref 1), (2, .int i)], [.int (Int8.ofInt 14).toInt32, .int i, .ref 29], h', n, 0, 0)) (by with_unfolding_all rfl) ?_
        exact k56 _ (by decide) (by decide) ⟨fun _ => by rw [← hpg]; exact q167, fun _ => by decide⟩
set_option maxRecDepth 100000 in
theorem mc_carve {l : Launch} {G : ax_T} {d : Nat} {h : ax_H} {n : Nat} (HS : SGN l G) (hd : 10 ≤ d) (H : mc_HW h n) (hg : (1 ≤ PO h ∧ PO h ≤ 20 ∧ (∀ t : Nat, t < (PO h).toNat → ab_ri h 2 (t : Int) = 46 ∨ ab_ri h 2 (t : Int) ∈ ab_let) ∧ gq (ab_ri h 2) (PO h).toNat ≤ 3)) : mc_M l G d mt_X7_carve [.ref 28, .ref 1] h n (fun r' h' n' => n' = n ∧ r' = none ∧ mc_HW h' n ∧ (∀ (k' : Nat) (i' : Int), k' ≠ 29 → (k' = 28 → i' ≠ 1) → (k' = 28 → i' ≠ 2) → (k' = 28 → i' ≠ 8) → ab_rd h' k' i' = ab_rd h k' i') ∧ ab_gc h' 29 (ab_ri h' 28 1).toNat ≤ 3 ∧ ab_ri h' 28 1 ≤ ab_ri h' 28 2 ∧ ab_ri h' 28 2 ≤ ab_ri h' 28 1 + 1) := by
  obtain ⟨d, rfl⟩ : ∃ e, d = e + 1 := ⟨d - 1, by omega⟩
  have hmi : mt_X7_carve ∈ mt_prog := List.mem_of_getElem? mi_X7_carve
  obtain ⟨p1, p20, hok, hgq⟩ := hg
  have hpo : (PO h = ab_ri h 1 1 ∨ PO h = ab_ri h 1 1 - 1) := by unfold PO; split; exact Or.inr rfl; exact Or.inl rfl
  refine mc_to hmi rfl ?_
  show mc_R _ _ _ _ _ (0, [(0, .ref 28), (1, .ref 1)], [], h, n, 0, 0)
  refine mc_cx hmi 2 (F' := (2, [(0, .ref 28), (1, .ref 1)], [.ref 1, .ref 28], h, n, 0, 0)) (by with_unfolding_all rfl) ?_
  refine mc_callP hmi (en := (2, .invokestatic 52, 3, (3, 73, 0, 0), [925, 924])) rfl (q := (mt_X7_placesOn, [.ref 1], [.ref 28])) (by with_unfolding_all rfl) ⟨rfl, rfl⟩ (pc' := 5) rfl (mc_placesOn (by omega) H) (fun y174 e175 => ?_)
  refine mc_puti hmi H (k := 28) (j := 1) (pc' := 8) rfl rfl rfl rfl (by rw [e175]; omega) (by rw [e175]; omega) rfl (fun h176 H177 w178 => ?_)
  have g1 := mc_ri w178
  have c1 : ab_ri h176 1 1 = ab_ri h 1 1 := by rw [g1, if_neg (fun q => absurd q.1 (by decide))]
  refine mc_cx hmi 2 (F' := (10, [(0, .ref 28), (1, .ref 1)], [.ref 1, .ref 28], h176, n, 0, 0)) (by with_unfolding_all rfl) ?_
  refine mc_geti hmi H177 (k := 1) (j := 1) (pc' := 13) rfl rfl rfl rfl (fun y179 (e180 : y179.toInt = ab_ri h176 1 1) r181 r182 => ?_)
  rw [e180] at r181 r182
  refine mc_puti hmi H177 (k := 28) (j := 2) (pc' := 16) rfl rfl rfl rfl (by rw [e180]; omega) (by rw [e180]; omega) rfl (fun h183 H184 w185 => ?_)
  have g2 := mc_ri w185
  have c2 : ab_ri h183 28 1 = ((PO h).toNat : Int) := by rw [g2, if_neg (fun q => absurd q.2 (by decide)), g1, if_pos ⟨rfl, rfl⟩]; omega
  have c3 : ab_ri h183 28 2 = ab_ri h 1 1 := by rw [g2, if_pos ⟨rfl, rfl⟩]; omega
  have c4 : ab_ri h183 2 = ab_ri h 2 := funext fun i => by rw [g2, if_neg (fun q => absurd q.1 (by decide)), g1, if_neg (fun q => absurd q.1 (by decide))]
  refine mc_cx hmi 2 (F' := (18, [(2, .int (Int32.ofInt 0)), (0, .ref 28), (1, .ref 1)], [], h183, n, 0, 0)) (by with_unfolding_all rfl) ?_
  refine mc_lvs (lv' := [(0, .ref 28), (1, .ref 1), (2, .int (Int32.ofInt 0))]) (by simp) ?_
  refine cv_loop (h := h183) HS (by omega) (N := (PO h).toNat) c2 (by omega) (by rw [c4]; exact hok) (fun h3 H3 f3 g3 => ?_) (PO h).toNat 0 h183 _ (Nat.zero_add _) rfl H184 (fun _ _ _ => rfl) (fun t ht => absurd ht (Nat.not_lt_zero t))
  rw [c4] at g3
  have d1 : ab_ri h3 28 1 = ((PO h).toNat : Int) := by rw [ab_ri_of (f3 28 1 (by decide))]; exact c2
  have d2 : ab_ri h3 28 2 = ab_ri h 1 1 := by rw [ab_ri_of (f3 28 2 (by decide))]; exact c3
  have k85 : ∀ h4 : ax_H, mc_HW h4 n → (∀ (k' : Nat) (i' : Int), (k' = 29 → i' ≠ (PO h)) → ab_rd h4 k' i' = ab_rd h3 k' i') → mc_R l G mt_X7_carve d (fun r' h' n' => n' = n ∧ r' = none ∧ mc_HW h' n ∧ (∀ (k' : Nat) (i' : Int), k' ≠ 29 → (k' = 28 → i' ≠ 1) → (k' = 28 → i' ≠ 2) → (k' = 28 → i' ≠ 8) → ab_rd h' k' i' = ab_rd h k' i') ∧ ab_gc h' 29 (ab_ri h' 28 1).toNat ≤ 3 ∧ ab_ri h' 28 1 ≤ ab_ri h' 28 2 ∧ ab_ri h' 28 2 ≤ ab_ri h' 28 1 + 1) (85, [(0, .ref 28), (1, .ref 1)], [], h4, n, 0, 0) := by
    intro h4 H4 f4
    refine mc_cx hmi 2 (F' := (87, [(0, .ref 28), (1, .ref 1)], [.int (Int32.ofInt (-1)), .ref 28], h4, n, 0, 0)) (by with_unfolding_all rfl) ?_
    refine mc_puti hmi H4 (k := 28) (j := 8) (pc' := 90) rfl rfl rfl rfl (by rw [show ((Int32.ofInt (-1))).toInt = (-1) from by decide]; omega) (by rw [show ((Int32.ofInt (-1))).toInt = (-1) from by decide]; omega) rfl (fun h186 H187 w188 => ?_)
    have x1 : ab_ri h186 28 1 = ((PO h).toNat : Int) := by rw [mc_ri w188, if_neg (fun q => absurd q.2 (by decide)), ab_ri_of (f4 28 1 (fun q => absurd q (by decide)))]; exact d1
    have x2 : ab_ri h186 28 2 = ab_ri h 1 1 := by rw [mc_ri w188, if_neg (fun q => absurd q.2 (by decide)), ab_ri_of (f4 28 2 (fun q => absurd q (by decide)))]; exact d2
    refine mc_ret hmi rfl rfl rfl ⟨rfl, rfl, H187, fun k' i' p1 p2 p3 p4 => ?_, ?_, by omega, by omega⟩
    · rw [w188, if_neg (fun q => p4 q.1 q.2), f4 k' i' (fun q => absurd q p1), f3 k' i' p1, w185, if_neg (fun q => p3 q.1 q.2), w178, if_neg (fun q => p2 q.1 q.2)]
    · rw [x1, gc_gq (f := ab_ri h 2) ((PO h).toNat : Int).toNat (fun t ht => by rw [mc_ri w188, if_neg (fun q => absurd q.1 (by decide)), ab_ri_of (f4 29 (t : Int) (fun _ => by omega))]; exact g3 t (by omega))]
      exact hgq
  refine mc_cx hmi 1 (F' := (64, [(0, .ref 28), (1, .ref 1)], [.ref 28], h3, n, 0, 0)) (by with_unfolding_all rfl) ?_
  refine mc_geti hmi H3 (k := 28) (j := 2) (pc' := 67) rfl rfl rfl rfl (fun y189 (e190 : y189.toInt = ab_ri h3 28 2) r191 r192 => ?_)
  rw [e190] at r191 r192
  refine mc_cx hmi 1 (F' := (68, [(0, .ref 28), (1, .ref 1)], [.ref 28, .int y189], h3, n, 0, 0)) (by with_unfolding_all rfl) ?_
  refine mc_geti hmi H3 (k := 28) (j := 1) (pc' := 71) rfl rfl rfl rfl (fun y193 (e194 : y193.toInt = ab_ri h3 28 1) r195 r196 => ?_)
  rw [e194] at r195 r196
  refine mc_ci hmi (c := .le) (tg := 85) (pc' := 74) rfl rfl rfl e190 e194 (fun (q197 : ab_ri h3 28 2 ≤ ab_ri h3 28 1) => ?_) (fun (q197 : ab_ri h3 28 1 < ab_ri h3 28 2) => ?_)
  · exact k85 h3 H3 (fun _ _ _ => rfl)
  · refine mc_cx hmi 1 (F' := (75, [(0, .ref 28), (1, .ref 1)], [.ref 28], h3, n, 0, 0)) (by with_unfolding_all rfl) ?_
    refine mc_getr hmi H3 (k := 28) (c := 29) (pc' := 78) rfl rfl rfl rfl rfl ?_
    refine mc_cx hmi 1 (F' := (79, [(0, .ref 28), (1, .ref 1)], [.ref 28, .ref 29], h3, n, 0, 0)) (by with_unfolding_all rfl) ?_
    refine mc_geti hmi H3 (k := 28) (j := 1) (pc' := 82) rfl rfl rfl rfl (fun y198 (e199 : y198.toInt = ab_ri h3 28 1) r200 r201 => ?_)
    rw [e199] at r200 r201
    refine mc_cx hmi 1 (F' := (84, [(0, .ref 28), (1, .ref 1)], [.int (Int8.ofInt 14).toInt32, .int y198, .ref 29], h3, n, 0, 0)) (by with_unfolding_all rfl) ?_
    refine mc_iast hmi H3 (k := 29) (i := ab_ri h3 28 1) (pc' := 85) rfl rfl rfl e199 (by omega) (by omega) (by rw [show ((Int8.ofInt 14).toInt32).toInt = 14 from by decide]; omega) (by rw [show ((Int8.ofInt 14).toInt32).toInt = 14 from by decide]; omega) rfl (fun h202 H203 w204 => ?_)
    refine mc_lvs (lv' := [(0, .ref 28), (1, .ref 1)]) (by simp) ?_
    exact k85 h202 H203 (fun k' i' p => by rw [w204, if_neg (fun q => p q.1 (by rw [q.2]; omega))])
set_option maxRecDepth 100000 in
theorem mc_stone10 {l : Launch} {G : ax_T} {d : Nat} {h : ax_H} {n : Nat} (HS : SGN l G) (hd : 11 ≤ d) (H : mc_HW h n) : mc_M l G d mt_X10_stone [.ref 0] h n (fun r' h' n' => n' = n ∧ mc_HW h' n ∧ (∃ y : Int32, r' = some (.int y)) ∧ (∀ (k' : Nat) (i' : Int), k' ≠ 29 → (k' = 28 → i' ≠ 1) → (k' = 28 → i' ≠ 2) → (k' = 28 → i' ≠ 8) → (k' = 1 → i' ≠ 1) → ab_rd h' k' i' = ab_rd h k' i') ∧ ((ab_gc h 29 (ab_ri h 28 1).toNat ≤ 3 ∧ ab_ri h 28 1 ≤ ab_ri h 28 2 ∧ ab_ri h 28 2 ≤ ab_ri h 28 1 + 1) → (ab_gc h' 29 (ab_ri h' 28 1).toNat ≤ 3 ∧ ab_ri h' 28 1 ≤ ab_ri h' 28 2 ∧ ab_ri h' 28 2 ≤ ab_ri h' 28 1 + 1))) := by
  obtain ⟨d, rfl⟩ : ∃ e, d = e + 1 := ⟨d - 1, by omega⟩
  have hmi : mt_X10_stone ∈ mt_prog := List.mem_of_getElem? mi_X10_stone
  refine mc_to hmi rfl ?_
  show mc_R _ _ _ _ _ (0, [(0, .ref 0)], [], h, n, 0, 0)
  refine mc_cx hmi 1 (F' := (1, [(0, .ref 0)], [.ref 0], h, n, 0, 0)) (by with_unfolding_all rfl) ?_
  refine mc_getr hmi H (k := 0) (c := 1) (pc' := 4) rfl rfl rfl rfl rfl ?_
  refine mc_callP hmi (en := (4, .invokestatic 227, 3, (4, 74, 0, 0), [922, 921])) rfl (q := (mt_X7_isStone, [.ref 1], [])) (by with_unfolding_all rfl) ⟨rfl, rfl⟩ (pc' := 7) rfl (mc_isStone HS (by omega) H) (fun y205 e206 => ?_)
  refine mc_cz hmi (c := .ne) (tg := 13) (pc' := 10) rfl rfl rfl rfl (fun (q207 : y205.toInt ≠ 0) => ?_) (fun (q207 : y205.toInt = 0) => ?_)
  · have hg := (e206.elim (fun q => absurd q q207) (fun q => q.2))
    refine mc_cx hmi 1 (F' := (14, [(0, .ref 0)], [.ref 0], h, n, 0, 0)) (by with_unfolding_all rfl) ?_
    refine mc_getr hmi H (k := 0) (c := 28) (pc' := 17) rfl rfl rfl rfl rfl ?_
    refine mc_cx hmi 1 (F' := (18, [(0, .ref 0)], [.ref 0, .ref 28], h, n, 0, 0)) (by with_unfolding_all rfl) ?_
    refine mc_getr hmi H (k := 0) (c := 1) (pc' := 21) rfl rfl rfl rfl rfl ?_
    refine mc_call hmi (en := (21, .invokevirtual 230, 3, (4, 75, 7, 0), [930, 48, 928])) rfl (q := (mt_X7_carve, [.ref 28, .ref 1], [])) (mc_inv H (as := [.ref 1]) (rest := []) rfl (by with_unfolding_all rfl) rfl rfl rfl) ⟨rfl, rfl⟩ (pc' := 24) rfl (mc_mono (mc_carve HS (by omega) H hg) ?_)
    intro r2 h2 n2 P2
    obtain ⟨e1, e2, H2, f2, g1, g2, g3⟩ := P2
    rw [e1, e2]
    show mc_R _ _ _ _ _ (24, [(0, .ref 0)], [], h2, n, 0, 0)
    refine mc_cx hmi 1 (F' := (25, [(0, .ref 0)], [.ref 0], h2, n, 0, 0)) (by with_unfolding_all rfl) ?_
    refine mc_getr hmi H2 (k := 0) (c := 1) (pc' := 28) rfl rfl rfl rfl rfl ?_
    refine mc_cx hmi 1 (F' := (29, [(0, .ref 0)], [.int (Int32.ofInt 0), .ref 1], h2, n, 0, 0)) (by with_unfolding_all rfl) ?_
    refine mc_puti hmi H2 (k := 1) (j := 1) (pc' := 32) rfl rfl rfl rfl (by rw [show ((Int32.ofInt 0)).toInt = 0 from by decide]; omega) (by rw [show ((Int32.ofInt 0)).toInt = 0 from by decide]; omega) rfl (fun h208 H209 w210 => ?_)
    refine mc_cx hmi 1 (F' := (33, [(0, .ref 0)], [.ref 0], h208, n, 0, 0)) (by with_unfolding_all rfl) ?_
    refine mc_getr hmi H209 (k := 0) (c := 28) (pc' := 36) rfl rfl rfl rfl rfl ?_
    refine mc_geti hmi H209 (k := 28) (j := 1) (pc' := 39) rfl rfl rfl rfl (fun y211 (e212 : y211.toInt = ab_ri h208 28 1) r213 r214 => ?_)
    rw [e212] at r213 r214
    refine mc_ret hmi rfl rfl rfl ⟨rfl, H209, ⟨_, rfl⟩, fun k' i' p1 p2 p3 p4 p5 => ?_, fun _ => ?_⟩
    · rw [w210, if_neg (fun q => p5 q.1 q.2)]; exact f2 k' i' p1 p2 p3 p4
    · have gz := mc_ri w210
      rw [gz, if_neg (fun q => absurd q.1 (by decide)), gz, if_neg (fun q => absurd q.1 (by decide)), show ab_gc h208 29 (ab_ri h2 28 1).toNat = ab_gc h2 29 (ab_ri h2 28 1).toNat from ab_gc_of _ (fun i _ => by rw [w210, if_neg (fun q => absurd q.1 (by decide))])]
      exact ⟨g1, g2, g3⟩
  · refine mc_cx hmi 1 (F' := (12, [(0, .ref 0)], [.int (Int8.ofInt (-103)).toInt32], h, n, 0, 0)) (by with_unfolding_all rfl) ?_
    exact mc_ret hmi rfl rfl rfl ⟨rfl, H, ⟨_, rfl⟩, fun _ _ _ _ _ _ _ => rfl, id⟩
end
