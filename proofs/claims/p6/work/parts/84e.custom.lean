/-! ===== custom of class and reference (ways printed by wip/v2/mk84e.py) ===== -/
/-- X10_custom from 43 on, behind the reading -/
def vq_1 : ab_Q := (105, 13, ([(0, av_k 0), (1, av_s 0)], [], [.inl (0, 5, 0)], [], [(av_k 0, av_c 8, av_s 0)], [], 0, 0), [(2, 1), (137438953472, 2), (1, 8)], [([], [av_s 0], [.inl (0, 5, 0), .inl (1, 6, 0)], [(0, 1, (-1)), (1, 0, 1)], [(av_k 0, av_c 8, av_s 1), (av_k 1, av_c 1, av_c 0)], [], 0, 0)])
def vu_1 : ab_CU := (63, ([(0, av_k 0), (1, av_s 0), (2, av_s 1)], [], [.inl (0, 5, 0), .inl (0, 6, 0), .inl (1, 6, 0)], [(0, 2, (-1)), (2, 0, 1)], [(av_k 1, av_c 1, av_c 0), (av_k 0, av_c 8, av_s 2), (av_k 0, av_c 0, av_k 1)], [], 0, 0), [(av_c 966, av_c 0), (av_c 6, av_s 1), (av_c 966, av_c 0)])
set_option maxRecDepth 100000 in
theorem vk_1 : ab_chk1 mt_prog cs_mt cs_cd cs_all 222 vq_1 mt_X10_custom [vu_1] none 43 vq_1.2.2.1 = true := by decide +kernel
set_option maxRecDepth 100000 in
theorem vk_1c : ab_chkC mt_prog cs_mt cs_cd cs_all 222 vq_1 mt_X10_custom [vu_1] vu_1 = true := by decide +kernel
theorem md_no {M : List (Nat × Int)} {κ : Nat} (hm : (M.all fun q => !(Nat.testBit q.1 κ)) = true) (i : Int) : ab_md M κ i = false := by
  unfold ab_md
  rw [Bool.eq_false_iff]
  intro hb
  obtain ⟨q, hq, h1⟩ := List.any_eq_true.mp hb
  have h2 := List.all_eq_true.mp hm q hq
  rw [Bool.and_eq_true] at h1
  rw [h1.1] at h2
  cases h2
/-- what custom of the class may change -/
def M_cu10 : List (Nat × Int) := [(224, -2), (2, 1), (137438953472, 2), (1, 8)]
theorem cu_kd : ∀ k : Nat, k < 6 → ab_k (122 + 4 * k) = 4 ∧ ab_k (123 + 4 * k) = 5 ∧ ab_k (124 + 4 * k) = 6 ∧ ab_k (125 + 4 * k) = 7 := by decide
/-- the customs' cells: the k-th -/
def pg_ck (h : ax_H) (k : Nat) : Prop := ab_rd h 3 (k : Int) = some (.ref (122 + 4 * k)) ∧ pg_cu h (122 + 4 * k) (123 + 4 * k) (124 + 4 * k) (125 + 4 * k)
/-- all stands but what custom may change, and those arrays -/
def cu_fr (M : List (Nat × Int)) (n : Nat) (k0 : Nat) (h h' : ax_H) : Prop := ∀ k, k < n → ∀ i : Int, 0 ≤ i → k ≠ 123 + 4 * k0 → k ≠ 124 + 4 * k0 → k ≠ 125 + 4 * k0 → ab_md M (ab_k k) i = false → ab_rd h' k i = ab_rd h k i
/-- what custom of the class answers and leaves -/
def cu_Q (h : ax_H) (n : Nat) : Option Value → ax_H → Nat → Prop := fun r' h' n' => ∃ y : Int32, r' = some (.int y) ∧ ((¬ pg_wh (ab_ri h 2) (ab_ri h 1 1).toNat ∧ y = Int32.ofInt (-103) ∧ h' = h ∧ n' = n) ∨ (pg_wh (ab_ri h 2) (ab_ri h 1 1).toNat ∧ ab_ri h 0 8 = 6 ∧ y = Int32.ofInt (-104) ∧ h' = h ∧ n' = n) ∨ (pg_wh (ab_ri h 2) (ab_ri h 1 1).toNat ∧ ∃ k : Nat, k < 6 ∧ ab_ri h 0 8 = (k : Int) ∧ y.toInt = (k : Int) ∧ ab_HT h' n' ∧ n ≤ n' ∧ ab_rd h' 0 8 = some (.int (Int32.ofInt ((k : Int) + 1))) ∧ ab_rd h' 1 1 = some (.int (Int32.ofInt 0)) ∧ pb_f M_cu10 n h h' ∧ cu_fr [(2, 1), (137438953472, 2), (1, 8)] n k h h' ∧ pg_K h' (123 + 4 * k) (124 + 4 * k) (125 + 4 * k) 0 (ab_ri h 2) (ab_ri h 1 1).toNat))
set_option maxRecDepth 100000 in
theorem cu_X10 {l : Launch} {G : ax_T} {d : Nat} {h : ax_H} {n : Nat} (HA : ab_Hand l G) (hd : 13 ≤ d) (HT : ab_HT h n) (hC : ∀ k : Nat, k < 6 → pg_ck h k) (hZ : ∀ k : Nat, k < 6 → ab_ri h 0 8 = (k : Int) → pg_K h (123 + 4 * k) (124 + 4 * k) (125 + 4 * k) 0 (ab_ri h 2) 0) : mc_M l G d mt_X10_custom [.ref 0] h n (cu_Q h n) := by
  obtain ⟨d, rfl⟩ : ∃ e, d = e + 1 := ⟨d - 1, by omega⟩
  have hmi : mt_X10_custom ∈ mt_prog := List.mem_of_getElem? mi_X10_custom
  have H := mc_HW_of HT
  have hcu : 0 ≤ ab_ri h 0 8 ∧ ab_ri h 0 8 ≤ 6 := mc_frng H (k := 0) (j := 8) (ci := 10) rfl rfl
  refine mc_to hmi rfl ?_
  show mc_R _ _ _ _ _ (0, [(0, .ref 0)], [], h, n, 0, 0)
  refine mc_cx hmi 1 (F' := (1, [(0, .ref 0)], [.ref 0], h, n, 0, 0)) (by with_unfolding_all rfl) ?_
  refine mc_getr hmi H (k := 0) (c := 1) (pc' := 4) rfl rfl rfl rfl rfl ?_
  refine mc_callP hmi (en := (4, .invokestatic 92, 3, (4, 63, 0, 0), [593, 592])) rfl (q := (mt_X6_isWhole, [.ref 1], [])) (by with_unfolding_all rfl) ⟨rfl, rfl⟩ (pc' := 7) rfl (mc_ruleWhole (by omega) H) (fun y101 e102 => ?_)
  refine mc_cz hmi (c := .ne) (tg := 13) (pc' := 10) rfl rfl rfl rfl (fun (q103 : y101.toInt ≠ 0) => ?_) (fun (q103 : y101.toInt = 0) => ?_)
  · have hwh := e102.elim (fun q => q.2) (fun q => absurd q.1 q103)
    refine mc_cx hmi 1 (F' := (14, [(0, .ref 0)], [.ref 0], h, n, 0, 0)) (by with_unfolding_all rfl) ?_
    refine mc_geti hmi H (k := 0) (j := 8) (pc' := 17) rfl rfl rfl rfl (fun y104 (e105 : y104.toInt = ab_ri h 0 8) r106 r107 => ?_)
    rw [e105] at r106 r107
    refine mc_cx hmi 1 (F' := (19, [(0, .ref 0)], [.int (Int8.ofInt 6).toInt32, .int y104], h, n, 0, 0)) (by with_unfolding_all rfl) ?_
    refine mc_ci hmi (c := .lt) (tg := 25) (pc' := 22) rfl rfl rfl e105 (by decide) (fun (q108 : ab_ri h 0 8 < 6) => ?_) (fun (q108 : 6 ≤ ab_ri h 0 8) => ?_)
    · obtain ⟨k, hk6, hke⟩ : ∃ k : Nat, k < 6 ∧ ab_ri h 0 8 = (k : Int) := ⟨(ab_ri h 0 8).toNat, by omega, by omega⟩
      obtain ⟨k1, k2⟩ := hC k hk6
      obtain ⟨kd0, kd1, kd2, kd3⟩ := cu_kd k hk6
      refine mc_cx hmi 1 (F' := (26, [(0, .ref 0)], [.ref 0], h, n, 0, 0)) (by with_unfolding_all rfl) ?_
      refine mc_geti hmi H (k := 0) (j := 8) (pc' := 29) rfl rfl rfl rfl (fun y109 (e110 : y109.toInt = ab_ri h 0 8) r111 r112 => ?_)
      rw [e110] at r111 r112
      refine mc_cx hmi 2 (F' := (31, [(1, .int y109), (0, .ref 0)], [.ref 0], h, n, 0, 0)) (by with_unfolding_all rfl) ?_
      refine mc_getr hmi H (k := 0) (c := 1) (pc' := 34) rfl rfl rfl rfl rfl ?_
      refine mc_cx hmi 1 (F' := (35, [(1, .int y109), (0, .ref 0)], [.ref 0, .ref 1], h, n, 0, 0)) (by with_unfolding_all rfl) ?_
      refine mc_getr hmi H (k := 0) (c := 3) (pc' := 38) rfl rfl rfl rfl rfl ?_
      refine mc_cx hmi 1 (F' := (39, [(1, .int y109), (0, .ref 0)], [.int y109, .ref 3, .ref 1], h, n, 0, 0)) (by with_unfolding_all rfl) ?_
      have hyk : y109.toInt = (k : Int) := by rw [e110]; exact hke
      refine mc_aaldC hmi H (k := 3) (c := 122 + 4 * k) (t := 3) (N := 6) (i := (k : Int)) (pc' := 40) rfl rfl rfl rfl hyk (by omega) (by omega) k1 rfl ?_
      refine mc_call hmi (en := (40, .invokestatic 96, 3, (4, 64, 0, 0), [596, 595])) rfl (q := (mt_X6_read, [.ref 1, .ref (122 + 4 * k)], [])) (by with_unfolding_all rfl) ⟨rfl, rfl⟩ (pc' := 43) rfl (mc_mono (mc_read (by omega) H k2 hwh.1 (hZ k hk6 hke)) ?_)
      intro r2 h2 n2 P2
      obtain ⟨e1, e2, H2, K2, f2⟩ := P2
      rw [e1, e2]
      show mc_R _ _ _ _ _ (43, [(1, .int y109), (0, .ref 0)], [], h2, n, 0, 0)
      refine mc_lvs (lv' := [(0, .ref 0), (1, .int y109)]) (by simp) ?_
      have HT2 : ab_HT h2 n := mc_HT_of H2 (mc_J2 H (fun k' i' q => f2 k' i' (fun z => by subst z; rcases q with q | q | q | q | q <;> omega) (fun z => by subst z; rcases q with q | q | q | q | q <;> omega) (fun z => by subst z; rcases q with q | q | q | q | q <;> omega)) HT.2.2.1)
      have r2 : ab_rd h2 0 8 = some (.int y109) := by
        obtain ⟨C, r1, r3⟩ := mc_fdi H (k := 0) (j := 8) (ci := 10) rfl rfl
        have e3 : C = y109 := Int32.toInt_inj.mp (by rw [hyk]; exact r3.trans hke)
        rw [f2 0 8 (by omega) (by omega) (by omega), ← e3]
        exact r1
      have hty : ab_ty n [.int y109] [.inl (0, 5, 0)] := pt_one (x := y109) (lo := 0) (hi := 5) (by omega) (by omega)
      refine mc_R_mono (mc_tail (i := 222) (Q := vq_1) (cy_222 HA) hmi vk_1 (fun c hc => by rw [List.mem_singleton] at hc; subst hc; exact vk_1c) (by show 12 ≤ _; omega) (V := [.int y109]) ⟨?_, trivial, hty, fun q hq => (nomatch (show q ∈ [] from hq)), ?_, fun q hq => (nomatch (show q ∈ [] from hq)), ⟨rfl, rfl⟩, ⟨HT2, fun k _ i _ => rfl, Nat.le_refl _⟩, fun u v hu => hu⟩) ?_
      · intro k a hk
        match k, hk with
        | 0, hk => have e : some (av_k 0) = some a := hk; cases e; exact ⟨_, rfl, rfl⟩
        | 1, hk => have e : some (av_s 0) = some a := hk; cases e; exact ⟨_, rfl, rfl⟩
        | k + 2, hk => have e : (none : Option ab_V) = some a := hk; cases e
      · intro q hq
        replace hq : q ∈ [(av_k 0, av_c 8, av_s 0)] := hq
        rw [List.mem_singleton] at hq
        subst hq
        exact Or.inl ⟨0, Int32.ofInt 8, .int y109, rfl, rfl, rfl, r2⟩
      · intro r' h' n' hq
        obtain ⟨P, hP, V', c', s', g1, g2, g3, g4, g5, g6, g7, g8, g9⟩ := hq
        rw [show vq_1.2.2.2.2 = [vq_1.2.2.2.2.head (by decide)] from rfl, List.mem_singleton] at hP
        subst hP
        have e2 : V'[0]? = some (.int y109) := g9 0 _ rfl
        obtain ⟨u, v, w1, w2, w3⟩ := g4 (0, 1, -1) List.mem_cons_self
        obtain ⟨v', u', w4, w5, w6⟩ := g4 (1, 0, 1) (List.mem_cons_of_mem _ List.mem_cons_self)
        have e3 : some (Value.int u) = some (.int y109) := w1.symm.trans e2
        have e4 : some (Value.int v') = some (.int v) := w4.symm.trans w2
        have e6 : some (Value.int u') = some (.int y109) := w5.symm.trans e2
        cases e3
        cases e4
        cases e6
        have w3' : y109.toInt - v.toInt ≤ -1 := w3
        have w6' : v.toInt - y109.toInt ≤ 1 := w6
        have ev : v = Int32.ofInt ((k : Int) + 1) := by rw [← hyk, show y109.toInt + 1 = v.toInt by omega, Int32.ofInt_toInt]
        have F2 : pb_f [(2, 1), (137438953472, 2), (1, 8)] n h2 h' := pb_f_of g8.2.1
        have FR : cu_fr [(2, 1), (137438953472, 2), (1, 8)] n k h h' := fun k' hk' i' hi' p1 p2 p3 hm => (F2 k' hk' i' hi' hm).trans (f2 k' i' p1 p2 p3)
        have hn := HT.1
        match r', g2 with
        | none, g2 => exact (show False from g2).elim
        | some z, g2 =>
          have e5 : some z = some (.int y109) := g2.1.symm.trans e2
          cases e5
          refine ⟨y109, rfl, Or.inr (Or.inr ⟨hwh, k, hk6, hke, hyk, g8.1, g8.2.2, pq_rd g5 (k := 0) (i := 8) (v := av_s 1) List.mem_cons_self rfl (by rw [← ev]; exact w2), pq_rd g5 (k := 1) (i := 1) (v := av_c 0) (List.mem_cons_of_mem _ List.mem_cons_self) rfl rfl, fun k' hk' i' hi' hm => ?_, FR, fun s hs => ?_⟩)⟩
          · have hm2 : ab_md [(224, -2)] (ab_k k') i' = false ∧ ab_md [(2, 1), (137438953472, 2), (1, 8)] (ab_k k') i' = false := by
              have e1 : ab_md M_cu10 (ab_k k') i' = (ab_md [(224, -2)] (ab_k k') i' || ab_md [(2, 1), (137438953472, 2), (1, 8)] (ab_k k') i') := List.any_append (xs := [(224, -2)]) (ys := [(2, 1), (137438953472, 2), (1, 8)])
              rw [e1, Bool.or_eq_false_iff] at hm
              exact hm
            have q123 : k' ≠ 123 + 4 * k := fun z => mh_all (M := [(224, -2)]) (κ := ab_k k') (by rw [z, kd1]; decide) hi' hm2.1
            have q124 : k' ≠ 124 + 4 * k := fun z => mh_all (M := [(224, -2)]) (κ := ab_k k') (by rw [z, kd2]; decide) hi' hm2.1
            have q125 : k' ≠ 125 + 4 * k := fun z => mh_all (M := [(224, -2)]) (κ := ab_k k') (by rw [z, kd3]; decide) hi' hm2.1
            exact FR k' hk' i' hi' q123 q124 q125 hm2.2
          · obtain ⟨a, b, c⟩ := K2 s hs
            exact ⟨(F2 (123 + 4 * k) (by omega) _ (by omega) (by rw [kd1]; exact md_no (by decide) _)).trans a, (F2 (124 + 4 * k) (by omega) _ (by omega) (by rw [kd2]; exact md_no (by decide) _)).trans b, (F2 (125 + 4 * k) (by omega) _ (by omega) (by rw [kd3]; exact md_no (by decide) _)).trans c⟩
    · refine mc_cx hmi 1 (F' := (24, [(0, .ref 0)], [.int (Int8.ofInt (-104)).toInt32], h, n, 0, 0)) (by with_unfolding_all rfl) ?_
      exact mc_ret hmi rfl rfl rfl ⟨_, rfl, Or.inr (Or.inl ⟨hwh, by omega, by decide, rfl, rfl⟩)⟩
  · refine mc_cx hmi 1 (F' := (12, [(0, .ref 0)], [.int (Int8.ofInt (-103)).toInt32], h, n, 0, 0)) (by with_unfolding_all rfl) ?_
    exact mc_ret hmi rfl rfl rfl ⟨_, rfl, Or.inl ⟨e102.elim (fun q => by omega) (fun q => q.2), by decide, rfl, rfl⟩⟩
def cu_Q11 (h : ax_H) (n : Nat) : Option Value → ax_H → Nat → Prop := fun r' h' n' => n' = n ∧ mc_HW h' n ∧ ∃ y : Int32, r' = some (.int y) ∧ ((¬ pg_wh (ab_ri h 545) (ab_ri h 542 2).toNat ∧ y = Int32.ofInt (-103) ∧ (∀ (k' : Nat) (i' : Int), (k' = 546 ∨ k' = 547 ∨ k' = 548 → i' < 14 * ab_ri h 542 4) → (k' = 542 → i' ≠ 25) → (k' = 542 → i' ≠ 26) → ab_rd h' k' i' = ab_rd h k' i')) ∨ (pg_wh (ab_ri h 545) (ab_ri h 542 2).toNat ∧ ab_ri h 542 4 = 6 ∧ y = Int32.ofInt (-104) ∧ (∀ (k' : Nat) (i' : Int), (k' = 546 ∨ k' = 547 ∨ k' = 548 → i' < 14 * ab_ri h 542 4) → (k' = 542 → i' ≠ 25) → (k' = 542 → i' ≠ 26) → ab_rd h' k' i' = ab_rd h k' i')) ∨ (pg_wh (ab_ri h 545) (ab_ri h 542 2).toNat ∧ ab_ri h 542 4 ≤ 5 ∧ y.toInt = ab_ri h 542 4 ∧ ab_rd h' 542 4 = some (.int (Int32.ofInt (ab_ri h 542 4 + 1))) ∧ ab_rd h' 542 2 = some (.int (Int32.ofInt 0)) ∧ (∀ (k' : Nat) (i' : Int), (k' = 546 ∨ k' = 547 ∨ k' = 548 → i' < 14 * ab_ri h 542 4) → (k' = 542 → i' ≠ 25) → (k' = 542 → i' ≠ 26) → (k' = 542 → i' ≠ 2) → (k' = 542 → i' ≠ 4) → ab_rd h' k' i' = ab_rd h k' i') ∧ pg_K h' 546 547 548 (14 * ab_ri h 542 4) (ab_ri h 545) (ab_ri h 542 2).toNat))
set_option maxRecDepth 100000 in
theorem cu_X11 {l : Launch} {G : ax_T} {d : Nat} {h : ax_H} {n : Nat} (hd : 4 ≤ d) (H : mc_HW h n) : mc_M l G d mt_X11_custom [.ref 542] h n (cu_Q11 h n) := by
  obtain ⟨d, rfl⟩ : ∃ e, d = e + 1 := ⟨d - 1, by omega⟩
  have hmi : mt_X11_custom ∈ mt_prog := List.mem_of_getElem? mi_X11_custom
  have hcu : 0 ≤ ab_ri h 542 4 ∧ ab_ri h 542 4 ≤ 6 := mc_frng H (k := 542) (j := 4) (ci := 11) rfl rfl
  refine mc_to hmi rfl ?_
  show mc_R _ _ _ _ _ (0, [(0, .ref 542)], [], h, n, 0, 0)
  refine mc_cx hmi 1 (F' := (1, [(0, .ref 542)], [.ref 542], h, n, 0, 0)) (by with_unfolding_all rfl) ?_
  refine mc_call hmi (en := (1, .invokevirtual 135, 3, (3, 156, 11, 0), [1284, 75, 1282])) rfl (q := (mt_X11_readCustom, [.ref 542], [])) (mc_inv H (as := []) (rest := []) rfl (by with_unfolding_all rfl) rfl rfl rfl) ⟨rfl, rfl⟩ (pc' := 4) rfl (mc_mono (mc_readCustom (by omega) H) ?_)
  intro r2 h2 n2 P2
  obtain ⟨e1, e2, H2, f2, g1, g2, g3⟩ := P2
  rw [e1, e2]
  show mc_R _ _ _ _ _ (4, [(0, .ref 542)], [], h2, n, 0, 0)
  have hc2 : ab_ri h2 542 4 = ab_ri h 542 4 := ab_ri_of (f2 542 4 (fun q => by omega) (fun _ => by decide) (fun _ => by decide))
  refine mc_cx hmi 1 (F' := (5, [(0, .ref 542)], [.ref 542], h2, n, 0, 0)) (by with_unfolding_all rfl) ?_
  refine mc_geti hmi H2 (k := 542) (j := 26) (pc' := 8) rfl rfl rfl rfl (fun y113 (e114 : y113.toInt = ab_ri h2 542 26) r115 r116 => ?_)
  rw [e114] at r115 r116
  refine mc_cz hmi (c := .ne) (tg := 14) (pc' := 11) rfl rfl rfl e114 (fun (q117 : ab_ri h2 542 26 ≠ 0) => ?_) (fun (q117 : ab_ri h2 542 26 = 0) => ?_)
  · have hwh := g2.elim (fun q => q.2) (fun q => absurd q.1 q117)
    refine mc_cx hmi 1 (F' := (15, [(0, .ref 542)], [.ref 542], h2, n, 0, 0)) (by with_unfolding_all rfl) ?_
    refine mc_geti hmi H2 (k := 542) (j := 4) (pc' := 18) rfl rfl rfl rfl (fun y118 (e119 : y118.toInt = ab_ri h2 542 4) r120 r121 => ?_)
    rw [e119] at r120 r121
    refine mc_cx hmi 1 (F' := (20, [(0, .ref 542)], [.int (Int8.ofInt 6).toInt32, .int y118], h2, n, 0, 0)) (by with_unfolding_all rfl) ?_
    refine mc_ci hmi (c := .ne) (tg := 26) (pc' := 23) rfl rfl rfl e119 (by decide) (fun (q122 : ab_ri h2 542 4 ≠ 6) => ?_) (fun (q122 : ab_ri h2 542 4 = 6) => ?_)
    · have hc5 : ab_ri h 542 4 ≤ 5 := by omega
      refine mc_cx hmi 2 (F' := (28, [(0, .ref 542)], [.ref 542, .ref 542], h2, n, 0, 0)) (by with_unfolding_all rfl) ?_
      refine mc_geti hmi H2 (k := 542) (j := 4) (pc' := 31) rfl rfl rfl rfl (fun y123 (e124 : y123.toInt = ab_ri h2 542 4) r125 r126 => ?_)
      rw [e124] at r125 r126
      refine mc_cx hmi 2 (F' := (33, [(0, .ref 542)], [.int (y123 + (Int32.ofInt 1)), .ref 542], h2, n, 0, 0)) (by with_unfolding_all rfl) ?_
      have e127 : (y123 + (Int32.ofInt 1)).toInt = ab_ri h2 542 4 + 1 := mc_add e124 (by decide) (by omega) (by omega)
      refine mc_puti hmi H2 (k := 542) (j := 4) (pc' := 36) rfl rfl rfl rfl (by rw [e127]; omega) (by rw [e127]; omega) rfl (fun h128 H129 w130 => ?_)
      refine mc_cx hmi 2 (F' := (38, [(0, .ref 542)], [.int (Int32.ofInt 0), .ref 542], h128, n, 0, 0)) (by with_unfolding_all rfl) ?_
      refine mc_puti hmi H129 (k := 542) (j := 2) (pc' := 41) rfl rfl rfl rfl (by rw [show ((Int32.ofInt 0)).toInt = 0 from by decide]; omega) (by rw [show ((Int32.ofInt 0)).toInt = 0 from by decide]; omega) rfl (fun h131 H132 w133 => ?_)
      refine mc_cx hmi 1 (F' := (42, [(0, .ref 542)], [.ref 542], h131, n, 0, 0)) (by with_unfolding_all rfl) ?_
      refine mc_geti hmi H132 (k := 542) (j := 4) (pc' := 45) rfl rfl rfl rfl (fun y134 (e135 : y134.toInt = ab_ri h131 542 4) r136 r137 => ?_)
      rw [e135] at r136 r137
      refine mc_cx hmi 2 (F' := (47, [(0, .ref 542)], [.int (y134 - (Int32.ofInt 1))], h131, n, 0, 0)) (by with_unfolding_all rfl) ?_
      have e138 : (y134 - (Int32.ofInt 1)).toInt = ab_ri h131 542 4 - 1 := mc_sub e135 (by decide) (by omega) (by omega)
      have e4 : ab_ri h131 542 4 = ab_ri h 542 4 + 1 := by
        rw [mc_ri w133, if_neg (fun q => absurd q.2 (by decide)), mc_ri w130, if_pos ⟨rfl, rfl⟩]
        omega
      refine mc_ret hmi rfl rfl rfl ⟨rfl, H132, _, rfl, Or.inr (Or.inr ⟨hwh, hc5, by rw [e138]; omega, ?_, ?_, fun k' i' p1 p2 p3 p4 p5 => ?_, pg_K_of (fun k i z => ?_) (g3 hwh hc5)⟩)⟩
      · rw [w133, if_neg (fun q => absurd q.2 (by decide)), w130, if_pos ⟨rfl, rfl⟩]
        refine congrArg (fun z => some (Value.int z)) (Int32.toInt_inj.mp ?_)
        rw [Int32.toInt_ofInt_of_le (by omega) (by omega)]
        omega
      · rw [w133, if_pos ⟨rfl, rfl⟩]
      · rw [w133, if_neg (fun q => p4 q.1 q.2), w130, if_neg (fun q => p5 q.1 q.2)]; exact f2 k' i' p1 p2 p3
      · rw [w133, if_neg (fun q => by have := q.1; omega), w130, if_neg (fun q => by have := q.1; omega)]
    · refine mc_cx hmi 1 (F' := (25, [(0, .ref 542)], [.int (Int8.ofInt (-104)).toInt32], h2, n, 0, 0)) (by with_unfolding_all rfl) ?_
      exact mc_ret hmi rfl rfl rfl ⟨rfl, H2, _, rfl, Or.inr (Or.inl ⟨hwh, by omega, by decide, f2⟩)⟩
  · refine mc_cx hmi 1 (F' := (13, [(0, .ref 542)], [.int (Int8.ofInt (-103)).toInt32], h2, n, 0, 0)) (by with_unfolding_all rfl) ?_
    exact mc_ret hmi rfl rfl rfl ⟨rfl, H2, _, rfl, Or.inl ⟨g2.elim (fun q => absurd q.1 (by omega)) (fun q => q.2), by decide, f2⟩⟩
