/-! ===== by hand: seek's contract, in the reference (ways printed by wip/hand/h_seek4.py) ===== -/
set_option maxRecDepth 100000 in
theorem mc_bound {l : Launch} {G : ax_T} {d : Nat} {h : ax_H} {n : Nat} (hd : 2 ≤ d) (H : ab_HT h n) (k : Int32) (hk0 : 0 ≤ k.toInt) (hk1 : k.toInt ≤ 5) : mc_M l G d mt_X11_bound [.ref 542, .int k] h n (fun r h' n' => r = none ∧ ab_HT h' n' ∧ n ≤ n' ∧ ab_fr hq_2.2.2.2.1 n h h') := by
  have hty : ab_ty n [.int k] [.inl (0, 5, 0)] := ⟨rfl, fun u τ hu => by
    cases u with
    | zero =>
      simp only [List.getElem?_cons_zero, Option.some.injEq] at hu
      subst hu
      exact ⟨.int k, rfl, k, rfl, hk0, hk1, trivial⟩
    | succ u => simp at hu⟩
  refine mc_mono (mc_con (hy_7 2 hq_2 (by decide) rfl) mi_X11_bound hd [.int k] [.ref 542, .int k] rfl (lv := ab_args [.inl (0, 5, 0)] 0 [av_k 542, av_s 0]) (Γ := [.inl (0, 5, 0)]) rfl (ab_args_ok hty 0 ⟨rfl, rfl, trivial⟩) hty H) ?_
  intro r h' n' hP
  obtain ⟨p1, p2, p3, P, p4, V', p5, p6⟩ := hP
  have : P = ([], [], [.inl (0, 5, 0)], [], [], [], 0, 0) := List.mem_singleton.mp p4
  subst this
  refine ⟨?_, p1, p2, p3⟩
  cases r with
  | none => rfl
  | some v => exact p6.elim
def QS (h : ax_H) (n : Nat) : Option Value → ax_H → Nat → Prop := fun r' h' n' => r' = none ∧ ∃ h1, ab_HT h1 n' ∧ n ≤ n' ∧ ab_fr hq_2.2.2.2.1 n h h1 ∧ mc_HW h' n' ∧ FRS h1 h'
set_option maxRecDepth 100000 in
theorem mc_seek {l : Launch} {G : ax_T} {d : Nat} {h : ax_H} {n : Nat} (hd : 4 ≤ d) (H : ab_HT h n) (k m w : Int32) (hk0 : 0 ≤ k.toInt) (hk1 : k.toInt ≤ 5) : mc_R l G mt_X11_seek d (QS h n) (0, [(0, .ref 542), (1, .int k), (2, .int m), (3, .int w)], [], h, n, 0, 0) := by
  have hmi : mt_X11_seek ∈ mt_prog := List.mem_of_getElem? mi_X11_seek
  refine mc_cx hmi 2 (F' := (2, [(0, .ref 542), (1, .int k), (2, .int m), (3, .int w)], [.int k, .ref 542], h, n, 0, 0)) (by with_unfolding_all rfl) ?_
  refine mc_call hmi (en := (2, .invokevirtual 174, 3, (3, 174, 11, 0), [1363, 84, 1361])) rfl (q := (mt_X11_bound, [.ref 542, .int k], [])) (mc_inv (mc_HW_of H) (as := [.int k]) (rest := []) rfl (by with_unfolding_all rfl) rfl rfl rfl) ⟨rfl, rfl⟩ (pc' := 5) rfl (mc_mono (mc_bound (by omega) H k hk0 hk1) ?_)
  intro r1 h1 n1 P1
  obtain ⟨e1, H1, hn1, f1⟩ := P1
  rw [e1]
  show mc_R _ _ _ _ _ (5, [(0, .ref 542), (1, .int k), (2, .int m), (3, .int w)], [], h1, n1, 0, 0)
  refine mc_cx hmi 2 (F' := (7, [(0, .ref 542), (1, .int k), (2, .int m), (3, .int w)], [.int (Int32.ofInt 0), .ref 542], h1, n1, 0, 0)) (by with_unfolding_all rfl) ?_
  refine mc_puti hmi (mc_HW_of H1) (k := 542) (j := 35) (pc' := 10) rfl rfl rfl rfl (by rw [show ((Int32.ofInt 0)).toInt = 0 from by decide]; omega) (by rw [show ((Int32.ofInt 0)).toInt = 0 from by decide]; omega) rfl (fun h101 H102 w103 => ?_)
  refine mc_cx hmi 2 (F' := (13, [(0, .ref 542), (1, .int k), (2, .int m), (3, .int w)], [.int (Int8.ofInt 25).toInt32, .ref 542], h101, n1, 0, 0)) (by with_unfolding_all rfl) ?_
  refine mc_puti hmi H102 (k := 542) (j := 36) (pc' := 16) rfl rfl rfl rfl (by rw [show ((Int8.ofInt 25).toInt32).toInt = 25 from by decide]; omega) (by rw [show ((Int8.ofInt 25).toInt32).toInt = 25 from by decide]; omega) rfl (fun h104 H105 w106 => ?_)
  refine mc_cx hmi 1 (F' := (17, [(0, .ref 542), (1, .int k), (2, .int m), (3, .int w)], [.ref 542], h104, n1, 0, 0)) (by with_unfolding_all rfl) ?_
  refine mc_getr hmi H105 (k := 542) (c := 549) (pc' := 20) rfl rfl rfl rfl rfl ?_
  refine mc_cx hmi 2 (F' := (23, [(0, .ref 542), (1, .int k), (2, .int m), (3, .int w)], [.int (Int32.ofInt 0), .int (Int8.ofInt 12).toInt32, .ref 549], h104, n1, 0, 0)) (by with_unfolding_all rfl) ?_
  refine mc_iast hmi H105 (k := 549) (i := 12) (pc' := 24) rfl rfl rfl (by decide) (by omega) (by omega) (by rw [show ((Int32.ofInt 0)).toInt = 0 from by decide]; omega) (by rw [show ((Int32.ofInt 0)).toInt = 0 from by decide]; omega) rfl (fun h107 H108 w109 => ?_)
  refine mc_cx hmi 3 (F' := (29, [(4, .int (Int8.ofInt 13).toInt32), (0, .ref 542), (1, .int k), (2, .int m), (3, .int w)], [.ref 542], h107, n1, 0, 0)) (by with_unfolding_all rfl) ?_
  refine mc_getr hmi H108 (k := 542) (c := 563) (pc' := 32) rfl rfl rfl rfl rfl ?_
  refine mc_cx hmi 2 (F' := (35, [(4, .int (Int8.ofInt 13).toInt32), (0, .ref 542), (1, .int k), (2, .int m), (3, .int w)], [.int m, .int (Int8.ofInt 13).toInt32, .ref 563], h107, n1, 0, 0)) (by with_unfolding_all rfl) ?_
  have b110 := Int32.le_toInt (m)
  have b111 := Int32.toInt_lt (m)
  refine mc_iast hmi H108 (k := 563) (i := 13) (pc' := 36) rfl rfl rfl (by decide) (by omega) (by omega) (by rw [show (m).toInt = m.toInt from rfl]; omega) (by rw [show (m).toInt = m.toInt from rfl]; omega) rfl (fun h112 H113 w114 => ?_)
  refine mc_cx hmi 1 (F' := (37, [(4, .int (Int8.ofInt 13).toInt32), (0, .ref 542), (1, .int k), (2, .int m), (3, .int w)], [.ref 542], h112, n1, 0, 0)) (by with_unfolding_all rfl) ?_
  refine mc_getr hmi H113 (k := 542) (c := 564) (pc' := 40) rfl rfl rfl rfl rfl ?_
  refine mc_cx hmi 2 (F' := (43, [(4, .int (Int8.ofInt 13).toInt32), (0, .ref 542), (1, .int k), (2, .int m), (3, .int w)], [.int (Int32.ofInt 0), .int (Int8.ofInt 13).toInt32, .ref 564], h112, n1, 0, 0)) (by with_unfolding_all rfl) ?_
  refine mc_iast hmi H113 (k := 564) (i := 13) (pc' := 44) rfl rfl rfl (by decide) (by omega) (by omega) (by rw [show ((Int32.ofInt 0)).toInt = 0 from by decide]; omega) (by rw [show ((Int32.ofInt 0)).toInt = 0 from by decide]; omega) rfl (fun h115 H116 w117 => ?_)
  refine mc_cx hmi 1 (F' := (45, [(4, .int (Int8.ofInt 13).toInt32), (0, .ref 542), (1, .int k), (2, .int m), (3, .int w)], [.ref 542], h115, n1, 0, 0)) (by with_unfolding_all rfl) ?_
  refine mc_getr hmi H116 (k := 542) (c := 562) (pc' := 48) rfl rfl rfl rfl rfl ?_
  refine mc_cx hmi 2 (F' := (52, [(4, .int (Int8.ofInt 13).toInt32), (0, .ref 542), (1, .int k), (2, .int m), (3, .int w)], [.int (Int8.ofInt 14).toInt32, .int (Int8.ofInt 13).toInt32, .ref 562], h115, n1, 0, 0)) (by with_unfolding_all rfl) ?_
  refine mc_iast hmi H116 (k := 562) (i := 13) (pc' := 53) rfl rfl rfl (by decide) (by omega) (by omega) (by rw [show ((Int8.ofInt 14).toInt32).toInt = 14 from by decide]; omega) (by rw [show ((Int8.ofInt 14).toInt32).toInt = 14 from by decide]; omega) rfl (fun h118 H119 w120 => ?_)
  refine mc_cx hmi 3 (F' := (57, [(4, .int (Int8.ofInt 13).toInt32), (0, .ref 542), (1, .int k), (2, .int m), (3, .int w)], [.int (Int8.ofInt 13).toInt32, .int k, .ref 542], h118, n1, 0, 0)) (by with_unfolding_all rfl) ?_
  have ea : ((Int8.ofInt 13).toInt32).toInt = ((13 : Nat) : Int) := by decide
  refine mc_call hmi (en := (57, .invokevirtual 184, 3, (3, 182, 11, 0), [1370, 85, 1368])) rfl (q := (mt_X11_open, [.ref 542, .int k, .int (Int8.ofInt 13).toInt32], [])) (mc_inv H119 (as := [.int k, .int (Int8.ofInt 13).toInt32]) (rest := []) rfl (by with_unfolding_all rfl) rfl rfl rfl) ⟨rfl, rfl⟩ (pc' := 60) rfl (mc_mono (mc_open (by omega) H119 k (Int8.ofInt 13).toInt32 hk0 hk1 (j := 13) (by omega) ea) ?_)
  intro r2 h2 n2 P2
  obtain ⟨e2, e3, H2, f2, p2⟩ := P2
  rw [e2, e3]
  show mc_R _ _ _ _ _ (60, [(4, .int (Int8.ofInt 13).toInt32), (0, .ref 542), (1, .int k), (2, .int m), (3, .int w)], [], h2, n1, 0, 0)
  refine mc_lvs (lv' := [(0, .ref 542), (1, .int k), (3, .int w), (4, .int (Int8.ofInt 13).toInt32)]) (by simp) ?_
  have kx : ∀ h' : ax_H, mc_HW h' n1 → FRS h1 h' → mc_R l G mt_X11_seek d (QS h n) (254, [(0, .ref 542)], [], h', n1, 0, 0) := fun h' H' f' => mc_ret hmi rfl rfl rfl ⟨rfl, h1, H1, hn1, f1, H', f'⟩
  have S2 : SK h1 h2 n1 13 := by
    refine ⟨H2, fun k' i' p1 p2 p3 p4 p5 p6 p7 p8 p9 => ?_, ?_, fun i i1 i2 => absurd i2 (by omega)⟩
    · rw [f2 k' i' (fun q => absurd q p3) (fun q => absurd q p4), w120, if_neg (fun q => p5 q.1), w117, if_neg (fun q => p7 q.1), w114, if_neg (fun q => p6 q.1), w109, if_neg (fun q => p1 q.1), w106, if_neg (fun q => p9 q.1 q.2), w103, if_neg (fun q => p8 q.1 q.2)]
    · rw [ab_ri_of (f2 564 13 (fun q => absurd q (by decide)) (fun q => absurd q (by decide))), mc_ri w120, if_neg (fun q => absurd q.1 (by decide)), mc_ri w117, if_pos ⟨rfl, rfl⟩]; decide
  refine sk_lev hd k w hk0 hk1 kx 13 (Nat.le_refl _) _ h2 (Int8.ofInt 13).toInt32 S2 ea (Nat.le_refl _) (fun h3 a3 S3 ha3 A3 p3 => ?_)
  refine mc_cx hmi 2 (F' := (64, [(0, .ref 542), (1, .int k), (3, .int w), (4, .int a3)], [.int (Int8.ofInt 14).toInt32, .int a3], h3, n1, 0, 0)) (by with_unfolding_all rfl) ?_
  refine mc_ci hmi (c := .ge) (tg := 254) (pc' := 67) rfl rfl rfl ha3 (by decide) (fun (q121 : 14 ≤ ((13 : Nat) : Int)) => ?_) (fun (q121 : ((13 : Nat) : Int) < 14) => ?_)
  · exact absurd q121 (by omega)
  · refine mc_cx hmi 1 (F' := (68, [(0, .ref 542), (1, .int k), (3, .int w), (4, .int a3)], [.ref 542], h3, n1, 0, 0)) (by with_unfolding_all rfl) ?_
    refine mc_geti hmi S3.1 (k := 542) (j := 35) (pc' := 71) rfl rfl rfl rfl (fun y122 (e123 : y122.toInt = ab_ri h3 542 35) r124 r125 => ?_)
    rw [e123] at r124 r125
    refine mc_cx hmi 1 (F' := (74, [(0, .ref 542), (1, .int k), (3, .int w), (4, .int a3)], [.int (Int16.ofInt 5000).toInt32, .int y122], h3, n1, 0, 0)) (by with_unfolding_all rfl) ?_
    refine mc_ci hmi (c := .ge) (tg := 254) (pc' := 77) rfl rfl rfl e123 (by decide) (fun (q126 : 5000 ≤ ab_ri h3 542 35) => ?_) (fun (q126 : ab_ri h3 542 35 < 5000) => ?_)
    · refine mc_lvs (lv' := [(0, .ref 542)]) (by simp) ?_
      exact kx h3 S3.1 S3.2.1
    · refine mc_cx hmi 1 (F' := (78, [(0, .ref 542), (1, .int k), (3, .int w), (4, .int a3)], [.ref 542], h3, n1, 0, 0)) (by with_unfolding_all rfl) ?_
      refine mc_getr hmi S3.1 (k := 542) (c := 560) (pc' := 81) rfl rfl rfl rfl rfl ?_
      refine mc_cx hmi 1 (F' := (83, [(0, .ref 542), (1, .int k), (3, .int w), (4, .int a3)], [.int a3, .ref 560], h3, n1, 0, 0)) (by with_unfolding_all rfl) ?_
      refine mc_iald hmi S3.1 (k := 560) (i := ((13 : Nat) : Int)) (pc' := 84) rfl rfl rfl ha3 (by omega) (by omega) rfl (fun y127 e128 r129 r130 => ?_)
      rw [e128] at r129 r130
      refine mc_cz hmi (c := .ge) (tg := 118) (pc' := 87) rfl rfl rfl e128 (fun (q131 : 0 ≤ ab_ri h3 560 (((13 : Nat) : Int))) => ?_) (fun (q131 : ab_ri h3 560 (((13 : Nat) : Int)) < 0) => ?_)
      · exact absurd q131 (by omega)
      · refine mc_cx hmi 3 (F' := (94, [(4, .int (a3 + Int32.ofInt 1)), (0, .ref 542), (1, .int k), (3, .int w)], [.int (Int8.ofInt 14).toInt32, .int (a3 + Int32.ofInt 1)], h3, n1, 0, 0)) (by with_unfolding_all rfl) ?_
        have e132 : (a3 + Int32.ofInt 1).toInt = ((13 : Nat) : Int) + 1 := mc_add ha3 (by decide) (by omega) (by omega)
        refine mc_ci hmi (c := .ge) (tg := 60) (pc' := 97) rfl rfl rfl e132 (by decide) (fun (q133 : 14 ≤ (((13 : Nat) : Int) + 1)) => ?_) (fun (q133 : (((13 : Nat) : Int) + 1) < 14) => ?_)
        · refine mc_cx hmi 2 (F' := (64, [(4, .int (a3 + Int32.ofInt 1)), (0, .ref 542), (1, .int k), (3, .int w)], [.int (Int8.ofInt 14).toInt32, .int (a3 + Int32.ofInt 1)], h3, n1, 0, 0)) (by with_unfolding_all rfl) ?_
          refine mc_ci hmi (c := .ge) (tg := 254) (pc' := 67) rfl rfl rfl e132 (by decide) (fun (q134 : 14 ≤ (((13 : Nat) : Int) + 1)) => ?_) (fun (q134 : (((13 : Nat) : Int) + 1) < 14) => ?_)
          · refine mc_lvs (lv' := [(0, .ref 542)]) (by simp) ?_
            exact kx h3 S3.1 S3.2.1
          · exact absurd q134 (by omega)
        · exact absurd q133 (by omega)
set_option maxRecDepth 100000 in
theorem seek_ok {l : Launch} {G : ax_T} : ab_QOk l G mt_prog cq_3 := by
  intro mi hmi d hd V as h n hlen hg
  have hm : mi = mt_X11_seek := Option.some.inj (hmi.symm.trans mi_X11_seek)
  subst hm
  have hin : mt_X11_seek ∈ mt_prog := List.mem_of_getElem? mi_X11_seek
  have hd' : 10 ≤ d := hd
  obtain ⟨d, rfl⟩ : ∃ d', d = d' + 1 := ⟨d - 1, by omega⟩
  obtain ⟨g1, -, g3, -, -, -, -, g8, g9⟩ := hg
  have hH := g8.1
  obtain ⟨v0, q0, ⟨k, rfl, k1, k2, -⟩⟩ := g3.2 0 _ rfl
  obtain ⟨v1, q1, ⟨m, rfl, -, -, -⟩⟩ := g3.2 1 _ rfl
  obtain ⟨v2, q2, ⟨w, rfl, -, -, -⟩⟩ := g3.2 2 _ rfl
  obtain ⟨x0, a0, b0⟩ := g1 0 _ rfl
  obtain ⟨x1, a1, b1⟩ := g1 1 _ rfl
  obtain ⟨x2, a2, b2⟩ := g1 2 _ rfl
  obtain ⟨x3, a3, b3⟩ := g1 3 _ rfl
  cases b0
  have e1 : x1 = .int k := Option.some.inj (b1.symm.trans q0)
  have e2 : x2 = .int m := Option.some.inj (b2.symm.trans q1)
  have e3 : x3 = .int w := Option.some.inj (b3.symm.trans q2)
  subst e1 e2 e3
  have hW := mc_HW_of hH
  obtain ⟨o, m1, m2, h1, H1, hn1, f1, m4, m5⟩ := mc_toL (l := l) (G := G) hin hlen (lv' := [(0, .ref 542), (1, .int k), (2, .int m), (3, .int w)]) (List.forall_mem_cons.mpr ⟨a0, List.forall_mem_cons.mpr ⟨a1, List.forall_mem_cons.mpr ⟨a2, List.forall_mem_cons.mpr ⟨a3, fun q hq => nomatch hq⟩⟩⟩⟩) (mc_seek (l := l) (G := G) (d := d) (by omega) hH k m w k1 k2)
  have hW1 := mc_HW_of H1
  have hJ : ab_J o.2.1 := mc_J2 hW1 (fun k i q => by
    by_cases hk : k = 549 ∨ k = 550 ∨ k = 560 ∨ k = 561 ∨ k = 562 ∨ k = 563 ∨ k = 564
    · rcases hk with rfl | rfl | rfl | rfl | rfl | rfl | rfl <;> rcases q with q | q | q | q | q <;> first | (exact absurd q (by decide)) | (exact absurd q.1 (by decide))
    · simp only [not_or] at hk
      obtain ⟨c1, c2, c3, c4, c5, c6, c7⟩ := hk
      refine m5 k i c1 c2 c3 c4 c5 c6 c7 (fun z => ?_) (fun z => ?_) <;> subst z <;> rcases q with q | q | q | q | q <;> first | (exact absurd q (by decide)) | (rw [q.2]; decide)) H1.2.2.1
  refine ⟨o, m1, _, List.mem_singleton.mpr rfl, V, 0, 0, fun k a hk => (by cases hk), ?_, ab_ty_mono hn1 g3, fun q hq => (nomatch hq), fun q hq => (nomatch hq), fun q hq => (nomatch hq), ⟨rfl, rfl⟩, ⟨mc_HT_of m4 hJ, fun k hk i hi => ?_, hn1⟩, g9⟩
  · rw [m2]; trivial
  · have hb : ab_md hq_2.2.2.2.1 (ab_k k) i = false := ab_smd_ok (md := cq_3.2.2.2.1) (by decide +kernel) hi
    have hf := f1 k hk i hb
    by_cases hn : i < 0 ∧ (k = 549 ∨ k = 550 ∨ k = 560 ∨ k = 561 ∨ k = 562 ∨ k = 563 ∨ k = 564)
    · refine mc_negrd hW m4 ?_ hn.1
      rcases hn.2 with rfl | rfl | rfl | rfl | rfl | rfl | rfl <;> rfl
    · refine Eq.trans ?_ hf
      have hmem : ((301052592665196792643584, (-2 : Int)) : Nat × Int) ∈ cq_3.2.2.2.1 := List.mem_cons_self
      refine m5 k i ?_ ?_ ?_ ?_ ?_ ?_ ?_ (fun z z2 => ?_) (fun z z2 => ?_)
      · intro z
        subst z
        have := mc_mdE hmem (κ := ab_k 549) (by decide +kernel) (i := i) (by omega)
        rw [this] at hi; cases hi
      · intro z
        subst z
        have := mc_mdE hmem (κ := ab_k 550) (by decide +kernel) (i := i) (by omega)
        rw [this] at hi; cases hi
      · intro z
        subst z
        have := mc_mdE hmem (κ := ab_k 560) (by decide +kernel) (i := i) (by omega)
        rw [this] at hi; cases hi
      · intro z
        subst z
        have := mc_mdE hmem (κ := ab_k 561) (by decide +kernel) (i := i) (by omega)
        rw [this] at hi; cases hi
      · intro z
        subst z
        have := mc_mdE hmem (κ := ab_k 562) (by decide +kernel) (i := i) (by omega)
        rw [this] at hi; cases hi
      · intro z
        subst z
        have := mc_mdE hmem (κ := ab_k 563) (by decide +kernel) (i := i) (by omega)
        rw [this] at hi; cases hi
      · intro z
        subst z
        have := mc_mdE hmem (κ := ab_k 564) (by decide +kernel) (i := i) (by omega)
        rw [this] at hi; cases hi
      · subst z z2
        have : ab_md cq_3.2.2.2.1 (ab_k 542) 35 = true := by decide +kernel
        rw [this] at hi; cases hi
      · subst z z2
        have : ab_md cq_3.2.2.2.1 (ab_k 542) 36 = true := by decide +kernel
        rw [this] at hi; cases hi
