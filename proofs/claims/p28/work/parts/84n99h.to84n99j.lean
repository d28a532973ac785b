section
/-! ===== could, says, sure of the class (ways printed by wip/v2/mk99h.py) ===== -/
def st_c (h : ax_H) (a : Int32) : Prop := 0 ≤ a.toInt ∧ a.toInt < ab_ri h 0 8
/-- no stone is read: there is none, or all readings are used up -/
def st_s (h : ax_H) : Prop := ab_ri h 28 1 = 0 ∨ 30 ≤ ab_ri h 0 10
theorem WA_fr {h h' : ax_H} {n w N : Nat} (e : ∀ (k' : Nat) (i' : Int), k' ≠ 0 → ab_rd h' k' i' = ab_rd h k' i') (W : WA h n w N) : WA h' n w N := by
  obtain ⟨a1, a2, a3, a4, a5, a6, a7⟩ := W
  have hw : w ≠ 0 := dy_ne a2 (by decide)
  exact ⟨a1, a2, (e 28 4 (by decide)).trans a3, (ab_ri_of (e w (-1) hw)).trans a4, a5, by rw [ab_ri_of (e 28 6 (by decide))]; exact a6, by rw [ab_ri_of (e 28 7 (by decide))]; exact a7⟩
theorem SL_fr {h h' : ax_H} {p R : Nat} {sg : Nat → Nat} {b : Prop} (e1 : ab_rd h' 28 1 = ab_rd h 28 1) (e2 : ab_rd h' 28 2 = ab_rd h 28 2) (e : ∀ i : Nat, i < 21 → ab_rd h' 29 (i : Int) = ab_rd h 29 (i : Int)) (S : SL h p R sg b) : SL h' p R sg b := by
  obtain ⟨a1, a2, a3, a4, a5, a6⟩ := S
  have hR : R ≤ 21 := by omega
  refine ⟨(ab_ri_of e1).trans a1, (ab_ri_of e2).trans a2, fun i hi => (ab_ri_of (e i (by omega))).trans (a3 i hi), a4, a5, ?_⟩
  rw [ab_gc_of p (fun i hi => e i (by omega))]
  exact a6
theorem CF_fr {h h' : ax_H} {w p : Nat} {sg : Nat → Nat} {b : Prop} {K : df_K} (hp : p ≤ 20) (e7 : ab_rd h' 28 7 = ab_rd h 28 7) (e3 : ∀ i : Nat, i < 20 → ab_rd h' 33 (i : Int) = ab_rd h 33 (i : Int)) (ew : ∀ i : Int, 0 ≤ i → ab_rd h' w i = ab_rd h w i) (C : CF h w p sg b K) : CF h' w p sg b K := by
  obtain ⟨u, a1, a2, a3, a4⟩ := C
  have ew' : ∀ t : Nat, ab_ri h' w (t : Int) = ab_ri h w (t : Int) := fun t => ab_ri_of (ew t (by omega))
  refine ⟨u, (ab_ri_of e7).trans a1, fun x y h1 h2 => by rw [ew', ew']; exact a2 x y h1 h2, fun v => ?_, fun i hi => by rw [ab_ri_of (e3 i (by omega))]; exact a4 i hi⟩
  rw [a3 v]
  exact ⟨fun ⟨t, ht, q⟩ => ⟨t, ht, (ew' t).trans q⟩, fun ⟨t, ht, q⟩ => ⟨t, ht, (ew' t).symm.trans q⟩⟩
theorem dw_Kg0 : ∀ k, k < 6 → ab_k (122 + 4 * k) ≠ 34 ∧ ab_k (123 + 4 * k) ≠ 34 ∧ ab_k (124 + 4 * k) ≠ 34 ∧ ab_k (125 + 4 * k) ≠ 34 := by decide +kernel
theorem dw_Kgk {k : Nat} (hk : k < 6) : dw_Kg (122 + 4 * k) (123 + 4 * k) (124 + 4 * k) (125 + 4 * k) := fun k' hk' => by
  obtain ⟨g1, g2, g3, g4⟩ := dw_Kg0 k hk
  rcases hk' with rfl | rfl | rfl | rfl
  · exact ⟨by omega, g1, by omega, by omega, by omega, by omega⟩
  · exact ⟨by omega, g2, by omega, by omega, by omega, by omega⟩
  · exact ⟨by omega, g3, by omega, by omega, by omega, by omega⟩
  · exact ⟨by omega, g4, by omega, by omega, by omega, by omega⟩
set_option maxRecDepth 100000 in
theorem zs_rs {l : Launch} {G : ax_T} {d : Nat} {h : ax_H} {n : Nat} (hd : 1 ≤ d) (H : mc_HW h n) (hs : st_s h) (k : Int32) : mc_M l G d (zz mt_X10_readStone) [.ref 0, .int k] h n (mc_P h n fun y => y.toInt = 0) := by
  obtain ⟨d, rfl⟩ : ∃ e, d = e + 1 := ⟨d - 1, by omega⟩
  have hmi : zz mt_X10_readStone ∈ z_prog := List.mem_of_getElem? (zz_get mi_X10_readStone)
  unfold st_s at hs
  refine mz_to hmi rfl ?_
  show mc_R _ _ _ _ _ (0, [(0, .ref 0), (1, .int k)], [], h, n, 0, 0)
  refine mz_cx hmi 1 (F' := (1, [(0, .ref 0), (1, .int k)], [.ref 0], h, n, 0, 0)) (by with_unfolding_all rfl) ?_
  refine mz_getr hmi H (k := 0) (c := 28) (pc' := 4) rfl rfl rfl rfl rfl ?_
  refine mz_geti hmi H (k := 28) (j := 1) (pc' := 7) rfl rfl rfl rfl (fun y101 (e102 : y101.toInt = ab_ri h 28 1) r103 r104 => ?_)
  rw [e102] at r103 r104
  refine mz_cz hmi (c := .eq) (tg := 19) (pc' := 10) rfl rfl rfl e102 (fun (q105 : ab_ri h 28 1 = 0) => ?_) (fun (q105 : ab_ri h 28 1 ≠ 0) => ?_)
  · refine mz_cx hmi 1 (F' := (20, [(0, .ref 0), (1, .int k)], [.int (Int32.ofInt 0)], h, n, 0, 0)) (by with_unfolding_all rfl) ?_
    exact mz_ret hmi rfl rfl (mc_rb (by decide)) ⟨rfl, rfl, _, rfl, by decide⟩
  · refine mz_cx hmi 1 (F' := (11, [(0, .ref 0), (1, .int k)], [.ref 0], h, n, 0, 0)) (by with_unfolding_all rfl) ?_
    refine mz_geti hmi H (k := 0) (j := 10) (pc' := 14) rfl rfl rfl rfl (fun y106 (e107 : y106.toInt = ab_ri h 0 10) r108 r109 => ?_)
    rw [e107] at r108 r109
    refine mz_cx hmi 1 (F' := (16, [(0, .ref 0), (1, .int k)], [.int (Int8.ofInt 30).toInt32, .int y106], h, n, 0, 0)) (by with_unfolding_all rfl) ?_
    refine mz_ci hmi (c := .lt) (tg := 21) (pc' := 19) rfl rfl rfl e107 (by decide) (fun (q110 : ab_ri h 0 10 < 30) => ?_) (fun (q110 : 30 ≤ ab_ri h 0 10) => ?_)
    · exact absurd q110 (by omega)
    · refine mz_cx hmi 1 (F' := (20, [(0, .ref 0), (1, .int k)], [.int (Int32.ofInt 0)], h, n, 0, 0)) (by with_unfolding_all rfl) ?_
      exact mz_ret hmi rfl rfl (mc_rb (by decide)) ⟨rfl, rfl, _, rfl, by decide⟩
set_option maxRecDepth 100000 in
theorem zs_could {l : Launch} {G : ax_T} {d : Nat} {h : ax_H} {n : Nat} (hd : 3 ≤ d) (H : mc_HW h n) (a : Int32) (hf : ¬ (st_c h a ∧ ¬ st_s h)) : mc_M l G d (zz mt_X10_could) [.ref 0, .int a] h n (mc_P h n fun y => ¬ st_c h a ∧ y.toInt = -101 ∨ st_c h a ∧ st_s h ∧ y.toInt = -103) := by
  obtain ⟨d, rfl⟩ : ∃ e, d = e + 1 := ⟨d - 1, by omega⟩
  have hmi : zz mt_X10_could ∈ z_prog := List.mem_of_getElem? (zz_get mi_X10_could)
  refine mz_to hmi rfl ?_
  show mc_R _ _ _ _ _ (0, [(0, .ref 0), (1, .int a)], [], h, n, 0, 0)
  refine mz_cx hmi 2 (F' := (2, [(0, .ref 0), (1, .int a)], [.int a, .ref 0], h, n, 0, 0)) (by with_unfolding_all rfl) ?_
  refine mz_callP hmi (en := (2, .invokevirtual 104, 3, (3, 143, 10, 0), [655, 10, 653])) rfl (q := (zz mt_X10_isCustom, [.ref 0, .int a], [])) (mz_inv H (as := [.int a]) (rest := []) rfl (by with_unfolding_all rfl) rfl rfl rfl) ⟨rfl, rfl⟩ (pc' := 5) rfl (ak_c10 (by omega) H a) (fun y111 e112 => ?_)
  refine mz_cz hmi (c := .ne) (tg := 11) (pc' := 8) rfl rfl rfl rfl (fun (q113 : y111.toInt ≠ 0) => ?_) (fun (q113 : y111.toInt = 0) => ?_)
  · have hcc : st_c h a := e112.elim (fun q => q.2) (fun q => absurd q.1 q113)
    have hs : st_s h := Classical.byContradiction fun q => hf ⟨hcc, q⟩
    refine mz_cx hmi 2 (F' := (13, [(0, .ref 0), (1, .int a)], [.int a, .ref 0], h, n, 0, 0)) (by with_unfolding_all rfl) ?_
    refine mz_callP hmi (en := (13, .invokevirtual 237, 3, (3, 145, 10, 0), [938, 49, 936])) rfl (q := (zz mt_X10_readStone, [.ref 0, .int a], [])) (mz_inv H (as := [.int a]) (rest := []) rfl (by with_unfolding_all rfl) rfl rfl rfl) ⟨rfl, rfl⟩ (pc' := 16) rfl (zs_rs (by omega) H hs a) (fun y114 e115 => ?_)
    refine mz_cz hmi (c := .ne) (tg := 22) (pc' := 19) rfl rfl rfl rfl (fun (q116 : y114.toInt ≠ 0) => ?_) (fun (q116 : y114.toInt = 0) => ?_)
    · exact absurd e115 q116
    · refine mz_cx hmi 1 (F' := (21, [(0, .ref 0), (1, .int a)], [.int (Int8.ofInt (-103)).toInt32], h, n, 0, 0)) (by with_unfolding_all rfl) ?_
      exact mz_ret hmi rfl rfl rfl ⟨rfl, rfl, _, rfl, Or.inr ⟨hcc, hs, by decide⟩⟩
  · refine mz_cx hmi 1 (F' := (10, [(0, .ref 0), (1, .int a)], [.int (Int8.ofInt (-101)).toInt32], h, n, 0, 0)) (by with_unfolding_all rfl) ?_
    exact mz_ret hmi rfl rfl rfl ⟨rfl, rfl, _, rfl, Or.inl ⟨fun z => e112.elim (fun q => by omega) (fun q => q.2 z), by decide⟩⟩
set_option maxRecDepth 100000 in
theorem zs_says {l : Launch} {G : ax_T} {d : Nat} {h : ax_H} {n : Nat} (hd : 3 ≤ d) (H : mc_HW h n) (a i : Int32) (hf : ¬ (st_c h a ∧ ¬ st_s h)) : mc_M l G d (zz mt_X10_says) [.ref 0, .int a, .int i] h n (mc_P h n fun y => ¬ st_c h a ∧ y.toInt = -101 ∨ st_c h a ∧ st_s h ∧ y.toInt = -103) := by
  obtain ⟨d, rfl⟩ : ∃ e, d = e + 1 := ⟨d - 1, by omega⟩
  have hmi : zz mt_X10_says ∈ z_prog := List.mem_of_getElem? (zz_get mi_X10_says)
  refine mz_to hmi rfl ?_
  show mc_R _ _ _ _ _ (0, [(0, .ref 0), (1, .int a), (2, .int i)], [], h, n, 0, 0)
  refine mz_cx hmi 2 (F' := (2, [(0, .ref 0), (1, .int a), (2, .int i)], [.int a, .ref 0], h, n, 0, 0)) (by with_unfolding_all rfl) ?_
  refine mz_callP hmi (en := (2, .invokevirtual 104, 3, (3, 143, 10, 0), [655, 10, 653])) rfl (q := (zz mt_X10_isCustom, [.ref 0, .int a], [])) (mz_inv H (as := [.int a]) (rest := []) rfl (by with_unfolding_all rfl) rfl rfl rfl) ⟨rfl, rfl⟩ (pc' := 5) rfl (ak_c10 (by omega) H a) (fun y117 e118 => ?_)
  refine mz_cz hmi (c := .ne) (tg := 11) (pc' := 8) rfl rfl rfl rfl (fun (q119 : y117.toInt ≠ 0) => ?_) (fun (q119 : y117.toInt = 0) => ?_)
  · have hcc : st_c h a := e118.elim (fun q => q.2) (fun q => absurd q.1 q119)
    have hs : st_s h := Classical.byContradiction fun q => hf ⟨hcc, q⟩
    refine mz_cx hmi 2 (F' := (13, [(0, .ref 0), (1, .int a), (2, .int i)], [.int a, .ref 0], h, n, 0, 0)) (by with_unfolding_all rfl) ?_
    refine mz_callP hmi (en := (13, .invokevirtual 237, 3, (3, 145, 10, 0), [938, 49, 936])) rfl (q := (zz mt_X10_readStone, [.ref 0, .int a], [])) (mz_inv H (as := [.int a]) (rest := []) rfl (by with_unfolding_all rfl) rfl rfl rfl) ⟨rfl, rfl⟩ (pc' := 16) rfl (zs_rs (by omega) H hs a) (fun y120 e121 => ?_)
    refine mz_cz hmi (c := .ne) (tg := 22) (pc' := 19) rfl rfl rfl rfl (fun (q122 : y120.toInt ≠ 0) => ?_) (fun (q122 : y120.toInt = 0) => ?_)
    · exact absurd e121 q122
    · refine mz_cx hmi 1 (F' := (21, [(0, .ref 0), (1, .int a), (2, .int i)], [.int (Int8.ofInt (-103)).toInt32], h, n, 0, 0)) (by with_unfolding_all rfl) ?_
      exact mz_ret hmi rfl rfl rfl ⟨rfl, rfl, _, rfl, Or.inr ⟨hcc, hs, by decide⟩⟩
  · refine mz_cx hmi 1 (F' := (10, [(0, .ref 0), (1, .int a), (2, .int i)], [.int (Int8.ofInt (-101)).toInt32], h, n, 0, 0)) (by with_unfolding_all rfl) ?_
    exact mz_ret hmi rfl rfl rfl ⟨rfl, rfl, _, rfl, Or.inl ⟨fun z => e118.elim (fun q => by omega) (fun q => q.2 z), by decide⟩⟩
set_option maxRecDepth 100000 in
theorem zs_sure {l : Launch} {G : ax_T} {d : Nat} {h : ax_H} {n : Nat} (hd : 3 ≤ d) (H : mc_HW h n) (a i : Int32) (hf : ¬ (st_c h a ∧ (0 ≤ i.toInt ∧ i.toInt < 20) ∧ ¬ st_s h)) : mc_M l G d (zz mt_X10_sure) [.ref 0, .int a, .int i] h n (mc_P h n fun y => ¬ st_c h a ∧ y.toInt = -101 ∨ st_c h a ∧ ¬ (0 ≤ i.toInt ∧ i.toInt < 20) ∧ y.toInt = -102 ∨ st_c h a ∧ (0 ≤ i.toInt ∧ i.toInt < 20) ∧ st_s h ∧ y.toInt = -103) := by
  obtain ⟨d, rfl⟩ : ∃ e, d = e + 1 := ⟨d - 1, by omega⟩
  have hmi : zz mt_X10_sure ∈ z_prog := List.mem_of_getElem? (zz_get mi_X10_sure)
  refine mz_to hmi rfl ?_
  show mc_R _ _ _ _ _ (0, [(0, .ref 0), (1, .int a), (2, .int i)], [], h, n, 0, 0)
  refine mz_cx hmi 2 (F' := (2, [(0, .ref 0), (1, .int a), (2, .int i)], [.int a, .ref 0], h, n, 0, 0)) (by with_unfolding_all rfl) ?_
  refine mz_callP hmi (en := (2, .invokevirtual 104, 3, (3, 143, 10, 0), [655, 10, 653])) rfl (q := (zz mt_X10_isCustom, [.ref 0, .int a], [])) (mz_inv H (as := [.int a]) (rest := []) rfl (by with_unfolding_all rfl) rfl rfl rfl) ⟨rfl, rfl⟩ (pc' := 5) rfl (ak_c10 (by omega) H a) (fun y123 e124 => ?_)
  refine mz_cz hmi (c := .ne) (tg := 11) (pc' := 8) rfl rfl rfl rfl (fun (q125 : y123.toInt ≠ 0) => ?_) (fun (q125 : y123.toInt = 0) => ?_)
  · have hcc : st_c h a := e124.elim (fun q => q.2) (fun q => absurd q.1 q125)
    refine mz_cx hmi 1 (F' := (12, [(0, .ref 0), (1, .int a), (2, .int i)], [.int i], h, n, 0, 0)) (by with_unfolding_all rfl) ?_
    refine mz_cz hmi (c := .lt) (tg := 21) (pc' := 15) rfl rfl rfl rfl (fun (q126 : i.toInt < 0) => ?_) (fun (q126 : 0 ≤ i.toInt) => ?_)
    · refine mz_cx hmi 1 (F' := (23, [(0, .ref 0), (1, .int a), (2, .int i)], [.int (Int8.ofInt (-102)).toInt32], h, n, 0, 0)) (by with_unfolding_all rfl) ?_
      exact mz_ret hmi rfl rfl rfl ⟨rfl, rfl, _, rfl, Or.inr (Or.inl ⟨hcc, by omega, by decide⟩)⟩
    · refine mz_cx hmi 2 (F' := (18, [(0, .ref 0), (1, .int a), (2, .int i)], [.int (Int8.ofInt 20).toInt32, .int i], h, n, 0, 0)) (by with_unfolding_all rfl) ?_
      refine mz_ci hmi (c := .lt) (tg := 24) (pc' := 21) rfl rfl rfl rfl (by decide) (fun (q127 : i.toInt < 20) => ?_) (fun (q127 : 20 ≤ i.toInt) => ?_)
      · have hin : (0 ≤ i.toInt ∧ i.toInt < 20) := ⟨by omega, by omega⟩
        have hs : st_s h := Classical.byContradiction fun q => hf ⟨hcc, hin, q⟩
        refine mz_cx hmi 2 (F' := (26, [(0, .ref 0), (1, .int a), (2, .int i)], [.int a, .ref 0], h, n, 0, 0)) (by with_unfolding_all rfl) ?_
        refine mz_callP hmi (en := (26, .invokevirtual 237, 3, (3, 145, 10, 0), [938, 49, 936])) rfl (q := (zz mt_X10_readStone, [.ref 0, .int a], [])) (mz_inv H (as := [.int a]) (rest := []) rfl (by with_unfolding_all rfl) rfl rfl rfl) ⟨rfl, rfl⟩ (pc' := 29) rfl (zs_rs (by omega) H hs a) (fun y128 e129 => ?_)
        refine mz_cz hmi (c := .ne) (tg := 35) (pc' := 32) rfl rfl rfl rfl (fun (q130 : y128.toInt ≠ 0) => ?_) (fun (q130 : y128.toInt = 0) => ?_)
        · exact absurd e129 q130
        · refine mz_cx hmi 1 (F' := (34, [(0, .ref 0), (1, .int a), (2, .int i)], [.int (Int8.ofInt (-103)).toInt32], h, n, 0, 0)) (by with_unfolding_all rfl) ?_
          exact mz_ret hmi rfl rfl rfl ⟨rfl, rfl, _, rfl, Or.inr (Or.inr ⟨hcc, hin, hs, by decide⟩)⟩
      · refine mz_cx hmi 1 (F' := (23, [(0, .ref 0), (1, .int a), (2, .int i)], [.int (Int8.ofInt (-102)).toInt32], h, n, 0, 0)) (by with_unfolding_all rfl) ?_
        exact mz_ret hmi rfl rfl rfl ⟨rfl, rfl, _, rfl, Or.inr (Or.inl ⟨hcc, by omega, by decide⟩)⟩
  · refine mz_cx hmi 1 (F' := (10, [(0, .ref 0), (1, .int a), (2, .int i)], [.int (Int8.ofInt (-101)).toInt32], h, n, 0, 0)) (by with_unfolding_all rfl) ?_
    exact mz_ret hmi rfl rfl rfl ⟨rfl, rfl, _, rfl, Or.inl ⟨fun z => e124.elim (fun q => by omega) (fun q => q.2 z), by decide⟩⟩
/-- what reading the stone leaves -/
def RSQ (h : ax_H) (n w p : Nat) (sg : Nat → Nat) (b : Prop) (K : df_K) (kk : Nat) (h' : ax_H) (n' : Nat) : Prop := mc_HW h' n' ∧ n ≤ n' ∧ (∃ w' N' : Nat, WA h' n' w' N' ∧ CF h' w' p sg b K) ∧ ab_ri h' 28 8 = (kk : Int) ∧ ab_ri h' 0 10 = ab_ri h 0 10 + 1 ∧ ∀ (k' : Nat) (i' : Int), k' < n → k' ≠ w → k' ≠ 33 → k' ≠ 30 → k' ≠ 31 → (k' = 28 → i' ≠ 4 ∧ i' ≠ 6 ∧ i' ≠ 7 ∧ i' ≠ 8) → (k' = 0 → i' ≠ 10) → ab_rd h' k' i' = ab_rd h k' i'
set_option maxHeartbeats 4000000 in
set_option maxRecDepth 100000 in
theorem rs_ok {l : Launch} {G : ax_T} {d : Nat} {h : ax_H} {n : Nat} (hd : 27 ≤ d) (H : mc_HW h n) {w N p R : Nat} {sg : Nat → Nat} {b : Prop} {K : df_K} (W : WA h n w N) (S : SL h p R sg b) {a : Int32} {kk : Nat} (ha : a.toInt = (kk : Int)) (hk6 : kk < 6) (ck : pg_ck h kk) (hK : dw_K h (122 + 4 * kk) (123 + 4 * kk) (124 + 4 * kk) (125 + 4 * kk) K) (hc : ab_ri h 28 8 = (kk : Int) → CF h w p sg b K) (ns : ¬ st_s h) : mc_M l G d mt_X10_readStone [.ref 0, .int a] h n (fun r' h' n' => (∃ y : Int32, r' = some (.int y) ∧ y.toInt = 1) ∧ RSQ h n w p sg b K kk h' n') := by
  obtain ⟨d, rfl⟩ : ∃ e, d = e + 1 := ⟨d - 1, by omega⟩
  have hmi : mt_X10_readStone ∈ mt_prog := List.mem_of_getElem? mi_X10_readStone
  have hmk : md_ok mt_X10_readStone 1 41160 := ⟨hmi, Nat.le_refl 1, Nat.le_refl 41160⟩
  unfold st_s at ns
  have hn := H.1
  refine mc_to hmi rfl ?_
  show mc_R _ _ _ _ _ (0, [(0, .ref 0), (1, .int a)], [], h, n, 0, 0)
  refine mc_cx hmi 1 (F' := (1, [(0, .ref 0), (1, .int a)], [.ref 0], h, n, 0, 0)) (by with_unfolding_all rfl) ?_
  refine mc_getr hmi H (k := 0) (c := 28) (pc' := 4) rfl rfl rfl rfl rfl ?_
  refine mc_geti hmi H (k := 28) (j := 1) (pc' := 7) rfl rfl rfl rfl (fun y131 (e132 : y131.toInt = ab_ri h 28 1) r133 r134 => ?_)
  rw [e132] at r133 r134
  refine mc_cz hmi (c := .eq) (tg := 19) (pc' := 10) rfl rfl rfl e132 (fun (q135 : ab_ri h 28 1 = 0) => ?_) (fun (q135 : ab_ri h 28 1 ≠ 0) => ?_)
  · exact absurd (Or.inl q135) ns
  · refine mc_cx hmi 1 (F' := (11, [(0, .ref 0), (1, .int a)], [.ref 0], h, n, 0, 0)) (by with_unfolding_all rfl) ?_
    refine mc_geti hmi H (k := 0) (j := 10) (pc' := 14) rfl rfl rfl rfl (fun y136 (e137 : y136.toInt = ab_ri h 0 10) r138 r139 => ?_)
    rw [e137] at r138 r139
    refine mc_cx hmi 1 (F' := (16, [(0, .ref 0), (1, .int a)], [.int (Int8.ofInt 30).toInt32, .int y136], h, n, 0, 0)) (by with_unfolding_all rfl) ?_
    refine mc_ci hmi (c := .lt) (tg := 21) (pc' := 19) rfl rfl rfl e137 (by decide) (fun (q140 : ab_ri h 0 10 < 30) => ?_) (fun (q140 : 30 ≤ ab_ri h 0 10) => ?_)
    · refine mc_cx hmi 2 (F' := (23, [(0, .ref 0), (1, .int a)], [.ref 0, .ref 0], h, n, 0, 0)) (by with_unfolding_all rfl) ?_
      refine mc_geti hmi H (k := 0) (j := 10) (pc' := 26) rfl rfl rfl rfl (fun y141 (e142 : y141.toInt = ab_ri h 0 10) r143 r144 => ?_)
      rw [e142] at r143 r144
      refine mc_cx hmi 2 (F' := (28, [(0, .ref 0), (1, .int a)], [.int (y141 + (Int32.ofInt 1)), .ref 0], h, n, 0, 0)) (by with_unfolding_all rfl) ?_
      have e145 : (y141 + (Int32.ofInt 1)).toInt = ab_ri h 0 10 + 1 := mc_add e142 (by decide) (by omega) (by omega)
      refine mc_puti hmi H (k := 0) (j := 10) (pc' := 31) rfl rfl rfl rfl (by rw [e145]; omega) (by rw [e145]; omega) rfl (fun h146 H147 w148 => ?_)
      have r1 := mc_ri w148
      have f1 : ∀ (k' : Nat) (i' : Int), k' ≠ 0 → ab_rd h146 k' i' = ab_rd h k' i' := fun k' i' q => by rw [w148, if_neg (fun z => q z.1)]
      have hw0 : w ≠ 0 := dy_ne W.2.1 (by decide)
      have g := dw_Kgk hk6
      refine mc_cx hmi 1 (F' := (32, [(0, .ref 0), (1, .int a)], [.ref 0], h146, n, 0, 0)) (by with_unfolding_all rfl) ?_
      refine mc_getr hmi H147 (k := 0) (c := 28) (pc' := 35) rfl rfl rfl rfl rfl ?_
      refine mc_cx hmi 1 (F' := (36, [(0, .ref 0), (1, .int a)], [.ref 0, .ref 28], h146, n, 0, 0)) (by with_unfolding_all rfl) ?_
      refine mc_getr hmi H147 (k := 0) (c := 3) (pc' := 39) rfl rfl rfl rfl rfl ?_
      refine mc_cx hmi 1 (F' := (40, [(0, .ref 0), (1, .int a)], [.int a, .ref 3, .ref 28], h146, n, 0, 0)) (by with_unfolding_all rfl) ?_
      refine mc_aaldC hmi H147 (k := 3) (c := 122 + 4 * kk) (t := 3) (N := 6) (i := (kk : Int)) (pc' := 41) rfl rfl rfl rfl ha (by omega) (by omega) ((f1 3 (kk : Int) (by decide)).trans ck.1) rfl ?_
      refine mc_cx hmi 1 (F' := (42, [(0, .ref 0), (1, .int a)], [.int a, .ref (122 + 4 * kk), .ref 28], h146, n, 0, 0)) (by with_unfolding_all rfl) ?_
      refine md_callX hmi (en := (42, .invokevirtual 311, 3, (4, 76, 7, 0), [942, 50, 940])) rfl (q := (mt_X7_fillBy, [.ref 28, .ref (122 + 4 * kk), .int a], [])) (mc_inv H147 (as := [.ref (122 + 4 * kk), .int a]) (rest := []) rfl (by with_unfolding_all rfl) rfl rfl rfl) ⟨rfl, rfl⟩ ⟨Nat.le_refl 1, Nat.le_refl 41160⟩ (pc' := 45) rfl (mc_mono (fb_ok (by omega) H147 (WA_fr f1 W) (SL_fr (f1 28 1 (by decide)) (f1 28 2 (by decide)) (fun i _ => f1 29 (i : Int) (by decide)) S) (dw_K_fr (fun k' i' q => f1 k' i' (by have := g k' q; omega)) hK) g ha hk6 (fun e => CF_fr S.2.2.2.2.1 (f1 28 7 (by decide)) (fun i _ => f1 33 (i : Int) (by decide)) (fun i _ => f1 w i hw0) (hc (by rw [← ab_ri_of (f1 28 8 (by decide))]; exact e)))) ?_)
      intro r2 h2 n2 P2
      obtain ⟨e2, H2, hn2, WC, e8, f2⟩ := P2
      rw [e2]
      show mc_R _ _ _ _ _ (45, [(0, .ref 0), (1, .int a)], [], h2, n2, 1, 41160)
      refine md_cx hmk 1 (F' := (46, [(0, .ref 0), (1, .int a)], [.int (Int32.ofInt 1)], h2, n2, 1, 41160)) (by with_unfolding_all rfl) ?_
      refine md_ret hmk rfl rfl (mc_rb (by decide)) ⟨⟨_, rfl, by decide⟩, H2, hn2, WC, e8, ?_, fun k' i' q1 q2 q3 q4 q5 q6 q7 => ?_⟩
      · rw [ab_ri_of (f2 0 10 (by omega) (Ne.symm hw0) (by decide) (by decide) (by decide) (fun q => absurd q (by decide))), r1, if_pos ⟨rfl, rfl⟩]; exact e145
      · rw [f2 k' i' q1 q2 q3 q4 q5 q6, w148, if_neg (fun z => q7 z.1 z.2)]
    · exact absurd (Or.inr q140) ns
set_option maxHeartbeats 4000000 in
set_option maxRecDepth 100000 in
theorem xs_could {l : Launch} {G : ax_T} {d : Nat} {h : ax_H} {n : Nat} (hd : 28 ≤ d) (H : mc_HW h n) {w N p R : Nat} {sg : Nat → Nat} {b : Prop} {K : df_K} (W : WA h n w N) (S : SL h p R sg b) {a : Int32} {kk : Nat} (ha : a.toInt = (kk : Int)) (hk6 : kk < 6) (ck : pg_ck h kk) (hK : dw_K h (122 + 4 * kk) (123 + 4 * kk) (124 + 4 * kk) (125 + 4 * kk) K) (hc : ab_ri h 28 8 = (kk : Int) → CF h w p sg b K) (ns : ¬ st_s h) (hcc : st_c h a) : mc_M l G d mt_X10_could [.ref 0, .int a] h n (fun r' h' n' => ∃ y : Int32, r' = some (.int y) ∧ RSQ h n w p sg b K kk h' n' ∧ y.toInt = ab_ri h' 28 7) := by
  obtain ⟨d, rfl⟩ : ∃ e, d = e + 1 := ⟨d - 1, by omega⟩
  have hmi : mt_X10_could ∈ mt_prog := List.mem_of_getElem? mi_X10_could
  have hmk : md_ok mt_X10_could 1 41160 := ⟨hmi, Nat.le_refl 1, Nat.le_refl 41160⟩
  have hn := H.1
  refine mc_to hmi rfl ?_
  show mc_R _ _ _ _ _ (0, [(0, .ref 0), (1, .int a)], [], h, n, 0, 0)
  refine mc_cx hmi 2 (F' := (2, [(0, .ref 0), (1, .int a)], [.int a, .ref 0], h, n, 0, 0)) (by with_unfolding_all rfl) ?_
  refine mc_callP hmi (en := (2, .invokevirtual 104, 3, (3, 143, 10, 0), [655, 10, 653])) rfl (q := (mt_X10_isCustom, [.ref 0, .int a], [])) (mc_inv H (as := [.int a]) (rest := []) rfl (by with_unfolding_all rfl) rfl rfl rfl) ⟨rfl, rfl⟩ (pc' := 5) rfl (ak_c10 (by omega) H a) (fun y149 e150 => ?_)
  refine mc_cz hmi (c := .ne) (tg := 11) (pc' := 8) rfl rfl rfl rfl (fun (q151 : y149.toInt ≠ 0) => ?_) (fun (q151 : y149.toInt = 0) => ?_)
  · refine mc_cx hmi 2 (F' := (13, [(0, .ref 0), (1, .int a)], [.int a, .ref 0], h, n, 0, 0)) (by with_unfolding_all rfl) ?_
    refine md_callX hmi (en := (13, .invokevirtual 237, 3, (3, 145, 10, 0), [938, 49, 936])) rfl (q := (mt_X10_readStone, [.ref 0, .int a], [])) (mc_inv H (as := [.int a]) (rest := []) rfl (by with_unfolding_all rfl) rfl rfl rfl) ⟨rfl, rfl⟩ ⟨Nat.le_refl 1, Nat.le_refl 41160⟩ (pc' := 16) rfl (mc_mono (rs_ok (by omega) H W S ha hk6 ck hK hc ns) ?_)
    intro r2 h2 n2 P2
    obtain ⟨⟨y2, e2, e3⟩, Z⟩ := P2
    obtain ⟨H2, hn2, ⟨w2, N2, W2, C2⟩, e8, e10, f2⟩ := id Z
    rw [e2]
    show mc_R _ _ _ _ _ (16, [(0, .ref 0), (1, .int a)], [.int y2], h2, n2, 1, 41160)
    refine md_cz hmk (c := .ne) (tg := 22) (pc' := 19) rfl rfl rfl e3 (fun (q152 : (1 : Int) ≠ 0) => ?_) (fun (q152 : (1 : Int) = 0) => ?_)
    · refine md_cx hmk 1 (F' := (23, [(0, .ref 0), (1, .int a)], [.ref 0], h2, n2, 1, 41160)) (by with_unfolding_all rfl) ?_
      refine md_getr hmk H2 (k := 0) (c := 28) (pc' := 26) rfl rfl rfl rfl rfl ?_
      refine md_geti hmk H2 (k := 28) (j := 7) (pc' := 29) rfl rfl rfl rfl (fun y153 (e154 : y153.toInt = ab_ri h2 28 7) r155 r156 => ?_)
      rw [e154] at r155 r156
      exact md_ret hmk rfl rfl rfl ⟨_, rfl, Z, e154⟩
    · exact absurd q152 (by decide)
  · exact absurd hcc (e150.elim (fun q => by omega) (fun q => q.2))
set_option maxHeartbeats 4000000 in
set_option maxRecDepth 100000 in
theorem xs_says {l : Launch} {G : ax_T} {d : Nat} {h : ax_H} {n : Nat} (hd : 28 ≤ d) (H : mc_HW h n) {w N p R : Nat} {sg : Nat → Nat} {b : Prop} {K : df_K} (W : WA h n w N) (S : SL h p R sg b) {a : Int32} {kk : Nat} (ha : a.toInt = (kk : Int)) (hk6 : kk < 6) (ck : pg_ck h kk) (hK : dw_K h (122 + 4 * kk) (123 + 4 * kk) (124 + 4 * kk) (125 + 4 * kk) K) (hc : ab_ri h 28 8 = (kk : Int) → CF h w p sg b K) (ns : ¬ st_s h) (hcc : st_c h a) {i : Int32} : mc_M l G d mt_X10_says [.ref 0, .int a, .int i] h n (fun r' h' n' => ∃ y : Int32, r' = some (.int y) ∧ RSQ h n w p sg b K kk h' n' ∧ (¬ (0 ≤ i.toInt ∧ i.toInt < ab_ri h' 28 7) ∧ y.toInt = -1 ∨ (0 ≤ i.toInt ∧ i.toInt < ab_ri h' 28 7) ∧ ∃ w' : Nat, ab_rd h' 28 4 = some (.ref w') ∧ y.toInt = ab_ri h' w' i.toInt)) := by
  obtain ⟨d, rfl⟩ : ∃ e, d = e + 1 := ⟨d - 1, by omega⟩
  have hmi : mt_X10_says ∈ mt_prog := List.mem_of_getElem? mi_X10_says
  have hmk : md_ok mt_X10_says 1 41160 := ⟨hmi, Nat.le_refl 1, Nat.le_refl 41160⟩
  have hn := H.1
  refine mc_to hmi rfl ?_
  show mc_R _ _ _ _ _ (0, [(0, .ref 0), (1, .int a), (2, .int i)], [], h, n, 0, 0)
  refine mc_cx hmi 2 (F' := (2, [(0, .ref 0), (1, .int a), (2, .int i)], [.int a, .ref 0], h, n, 0, 0)) (by with_unfolding_all rfl) ?_
  refine mc_callP hmi (en := (2, .invokevirtual 104, 3, (3, 143, 10, 0), [655, 10, 653])) rfl (q := (mt_X10_isCustom, [.ref 0, .int a], [])) (mc_inv H (as := [.int a]) (rest := []) rfl (by with_unfolding_all rfl) rfl rfl rfl) ⟨rfl, rfl⟩ (pc' := 5) rfl (ak_c10 (by omega) H a) (fun y157 e158 => ?_)
  refine mc_cz hmi (c := .ne) (tg := 11) (pc' := 8) rfl rfl rfl rfl (fun (q159 : y157.toInt ≠ 0) => ?_) (fun (q159 : y157.toInt = 0) => ?_)
  · refine mc_cx hmi 2 (F' := (13, [(0, .ref 0), (1, .int a), (2, .int i)], [.int a, .ref 0], h, n, 0, 0)) (by with_unfolding_all rfl) ?_
    refine md_callX hmi (en := (13, .invokevirtual 237, 3, (3, 145, 10, 0), [938, 49, 936])) rfl (q := (mt_X10_readStone, [.ref 0, .int a], [])) (mc_inv H (as := [.int a]) (rest := []) rfl (by with_unfolding_all rfl) rfl rfl rfl) ⟨rfl, rfl⟩ ⟨Nat.le_refl 1, Nat.le_refl 41160⟩ (pc' := 16) rfl (mc_mono (rs_ok (by omega) H W S ha hk6 ck hK hc ns) ?_)
    intro r2 h2 n2 P2
    obtain ⟨⟨y2, e2, e3⟩, Z⟩ := P2
    obtain ⟨H2, hn2, ⟨w2, N2, W2, C2⟩, e8, e10, f2⟩ := id Z
    rw [e2]
    show mc_R _ _ _ _ _ (16, [(0, .ref 0), (1, .int a), (2, .int i)], [.int y2], h2, n2, 1, 41160)
    refine md_cz hmk (c := .ne) (tg := 22) (pc' := 19) rfl rfl rfl e3 (fun (q160 : (1 : Int) ≠ 0) => ?_) (fun (q160 : (1 : Int) = 0) => ?_)
    · refine md_cx hmk 1 (F' := (23, [(0, .ref 0), (1, .int a), (2, .int i)], [.int i], h2, n2, 1, 41160)) (by with_unfolding_all rfl) ?_
      refine md_cz hmk (c := .lt) (tg := 37) (pc' := 26) rfl rfl rfl rfl (fun (q161 : i.toInt < 0) => ?_) (fun (q161 : 0 ≤ i.toInt) => ?_)
      · refine md_cx hmk 2 (F' := (50, [(0, .ref 0), (1, .int a), (2, .int i)], [.int (Int32.ofInt (-1))], h2, n2, 1, 41160)) (by with_unfolding_all rfl) ?_
        exact md_ret hmk rfl rfl rfl ⟨_, rfl, Z, Or.inl ⟨by omega, by decide⟩⟩
      · refine md_cx hmk 2 (F' := (28, [(0, .ref 0), (1, .int a), (2, .int i)], [.ref 0, .int i], h2, n2, 1, 41160)) (by with_unfolding_all rfl) ?_
        refine md_getr hmk H2 (k := 0) (c := 28) (pc' := 31) rfl rfl rfl rfl rfl ?_
        refine md_geti hmk H2 (k := 28) (j := 7) (pc' := 34) rfl rfl rfl rfl (fun y162 (e163 : y162.toInt = ab_ri h2 28 7) r164 r165 => ?_)
        rw [e163] at r164 r165
        refine md_ci hmk (c := .lt) (tg := 41) (pc' := 37) rfl rfl rfl rfl e163 (fun (q166 : i.toInt < ab_ri h2 28 7) => ?_) (fun (q166 : ab_ri h2 28 7 ≤ i.toInt) => ?_)
        · refine md_cx hmk 1 (F' := (42, [(0, .ref 0), (1, .int a), (2, .int i)], [.ref 0], h2, n2, 1, 41160)) (by with_unfolding_all rfl) ?_
          refine md_getr hmk H2 (k := 0) (c := 28) (pc' := 45) rfl rfl rfl rfl rfl ?_
          refine md_getrC hmk H2 (k := 28) (c := w2) (j := 4) (pc' := 48) rfl rfl rfl W2.2.2.1 rfl ?_
          refine md_cx hmk 1 (F' := (49, [(0, .ref 0), (1, .int a), (2, .int i)], [.int i, .ref w2], h2, n2, 1, 41160)) (by with_unfolding_all rfl) ?_
          have hwl := W2.2.2.2.1
          have hw7 := W2.2.2.2.2.2.2
          refine md_iwald hmk H2 W2.1 W2.2.1 (i := i.toInt) (pc' := 50) rfl rfl (by omega) (by omega) rfl (fun y4 e4 => ?_)
          exact md_ret hmk rfl rfl rfl ⟨_, rfl, Z, Or.inr ⟨by omega, w2, W2.2.2.1, e4⟩⟩
        · refine md_cx hmk 2 (F' := (50, [(0, .ref 0), (1, .int a), (2, .int i)], [.int (Int32.ofInt (-1))], h2, n2, 1, 41160)) (by with_unfolding_all rfl) ?_
          exact md_ret hmk rfl rfl rfl ⟨_, rfl, Z, Or.inl ⟨by omega, by decide⟩⟩
    · exact absurd q160 (by decide)
  · exact absurd hcc (e158.elim (fun q => by omega) (fun q => q.2))
set_option maxHeartbeats 4000000 in
set_option maxRecDepth 100000 in
theorem xs_sure {l : Launch} {G : ax_T} {d : Nat} {h : ax_H} {n : Nat} (hd : 28 ≤ d) (H : mc_HW h n) {w N p R : Nat} {sg : Nat → Nat} {b : Prop} {K : df_K} (W : WA h n w N) (S : SL h p R sg b) {a : Int32} {kk : Nat} (ha : a.toInt = (kk : Int)) (hk6 : kk < 6) (ck : pg_ck h kk) (hK : dw_K h (122 + 4 * kk) (123 + 4 * kk) (124 + 4 * kk) (125 + 4 * kk) K) (hc : ab_ri h 28 8 = (kk : Int) → CF h w p sg b K) (ns : ¬ st_s h) (hcc : st_c h a) {i : Int32} (hin : (0 ≤ i.toInt ∧ i.toInt < 20)) : mc_M l G d mt_X10_sure [.ref 0, .int a, .int i] h n (fun r' h' n' => ∃ y : Int32, r' = some (.int y) ∧ RSQ h n w p sg b K kk h' n' ∧ (i.toInt < (p : Int) ∧ y.toInt = ab_ri h' 33 i.toInt ∨ ¬ i.toInt < (p : Int) ∧ y.toInt = -1)) := by
  obtain ⟨d, rfl⟩ : ∃ e, d = e + 1 := ⟨d - 1, by omega⟩
  have hmi : mt_X10_sure ∈ mt_prog := List.mem_of_getElem? mi_X10_sure
  have hmk : md_ok mt_X10_sure 1 41160 := ⟨hmi, Nat.le_refl 1, Nat.le_refl 41160⟩
  have hn := H.1
  refine mc_to hmi rfl ?_
  show mc_R _ _ _ _ _ (0, [(0, .ref 0), (1, .int a), (2, .int i)], [], h, n, 0, 0)
  refine mc_cx hmi 2 (F' := (2, [(0, .ref 0), (1, .int a), (2, .int i)], [.int a, .ref 0], h, n, 0, 0)) (by with_unfolding_all rfl) ?_
  refine mc_callP hmi (en := (2, .invokevirtual 104, 3, (3, 143, 10, 0), [655, 10, 653])) rfl (q := (mt_X10_isCustom, [.ref 0, .int a], [])) (mc_inv H (as := [.int a]) (rest := []) rfl (by with_unfolding_all rfl) rfl rfl rfl) ⟨rfl, rfl⟩ (pc' := 5) rfl (ak_c10 (by omega) H a) (fun y167 e168 => ?_)
  refine mc_cz hmi (c := .ne) (tg := 11) (pc' := 8) rfl rfl rfl rfl (fun (q169 : y167.toInt ≠ 0) => ?_) (fun (q169 : y167.toInt = 0) => ?_)
  · refine mc_cx hmi 1 (F' := (12, [(0, .ref 0), (1, .int a), (2, .int i)], [.int i], h, n, 0, 0)) (by with_unfolding_all rfl) ?_
    refine mc_cz hmi (c := .lt) (tg := 21) (pc' := 15) rfl rfl rfl rfl (fun (q170 : i.toInt < 0) => ?_) (fun (q170 : 0 ≤ i.toInt) => ?_)
    · exact absurd q170 (by omega)
    · refine mc_cx hmi 2 (F' := (18, [(0, .ref 0), (1, .int a), (2, .int i)], [.int (Int8.ofInt 20).toInt32, .int i], h, n, 0, 0)) (by with_unfolding_all rfl) ?_
      refine mc_ci hmi (c := .lt) (tg := 24) (pc' := 21) rfl rfl rfl rfl (by decide) (fun (q171 : i.toInt < 20) => ?_) (fun (q171 : 20 ≤ i.toInt) => ?_)
      · refine mc_cx hmi 2 (F' := (26, [(0, .ref 0), (1, .int a), (2, .int i)], [.int a, .ref 0], h, n, 0, 0)) (by with_unfolding_all rfl) ?_
        refine md_callX hmi (en := (26, .invokevirtual 237, 3, (3, 145, 10, 0), [938, 49, 936])) rfl (q := (mt_X10_readStone, [.ref 0, .int a], [])) (mc_inv H (as := [.int a]) (rest := []) rfl (by with_unfolding_all rfl) rfl rfl rfl) ⟨rfl, rfl⟩ ⟨Nat.le_refl 1, Nat.le_refl 41160⟩ (pc' := 29) rfl (mc_mono (rs_ok (by omega) H W S ha hk6 ck hK hc ns) ?_)
        intro r2 h2 n2 P2
        obtain ⟨⟨y2, e2, e3⟩, Z⟩ := P2
        obtain ⟨H2, hn2, ⟨w2, N2, W2, C2⟩, e8, e10, f2⟩ := id Z
        rw [e2]
        show mc_R _ _ _ _ _ (29, [(0, .ref 0), (1, .int a), (2, .int i)], [.int y2], h2, n2, 1, 41160)
        refine md_cz hmk (c := .ne) (tg := 35) (pc' := 32) rfl rfl rfl e3 (fun (q172 : (1 : Int) ≠ 0) => ?_) (fun (q172 : (1 : Int) = 0) => ?_)
        · refine md_cx hmk 2 (F' := (37, [(0, .ref 0), (1, .int a), (2, .int i)], [.ref 0, .int i], h2, n2, 1, 41160)) (by with_unfolding_all rfl) ?_
          refine md_getr hmk H2 (k := 0) (c := 28) (pc' := 40) rfl rfl rfl rfl rfl ?_
          refine md_geti hmk H2 (k := 28) (j := 1) (pc' := 43) rfl rfl rfl rfl (fun y173 (e174 : y173.toInt = ab_ri h2 28 1) r175 r176 => ?_)
          rw [e174] at r175 r176
          have hp2 : ab_ri h2 28 1 = (p : Int) := (ab_ri_of (f2 28 1 (by omega) (Ne.symm (dy_ne W.2.1 (by decide))) (by decide) (by decide) (by decide) (by decide) (fun q => absurd q (by decide)))).trans S.1
          have hp20 := S.2.2.2.2.1
          rw [hp2] at e174
          refine md_ci hmk (c := .ge) (tg := 58) (pc' := 46) rfl rfl rfl rfl e174 (fun (q177 : (p : Int) ≤ i.toInt) => ?_) (fun (q177 : i.toInt < (p : Int)) => ?_)
          · refine md_cx hmk 1 (F' := (59, [(0, .ref 0), (1, .int a), (2, .int i)], [.int (Int32.ofInt (-1))], h2, n2, 1, 41160)) (by with_unfolding_all rfl) ?_
            exact md_ret hmk rfl rfl rfl ⟨_, rfl, Z, Or.inr ⟨by omega, by decide⟩⟩
          · refine md_cx hmk 1 (F' := (47, [(0, .ref 0), (1, .int a), (2, .int i)], [.ref 0], h2, n2, 1, 41160)) (by with_unfolding_all rfl) ?_
            refine md_getr hmk H2 (k := 0) (c := 28) (pc' := 50) rfl rfl rfl rfl rfl ?_
            refine md_getr hmk H2 (k := 28) (c := 33) (pc' := 53) rfl rfl rfl rfl rfl ?_
            refine md_cx hmk 1 (F' := (54, [(0, .ref 0), (1, .int a), (2, .int i)], [.int i, .ref 33], h2, n2, 1, 41160)) (by with_unfolding_all rfl) ?_
            refine md_iald hmk H2 (k := 33) (i := i.toInt) (pc' := 55) rfl rfl rfl rfl (by omega) (by omega) rfl (fun y178 e179 r180 r181 => ?_)
            rw [e179] at r180 r181
            refine md_cx hmk 1 (F' := (59, [(0, .ref 0), (1, .int a), (2, .int i)], [.int y178], h2, n2, 1, 41160)) (by with_unfolding_all rfl) ?_
            exact md_ret hmk rfl rfl rfl ⟨_, rfl, Z, Or.inl ⟨by omega, e179⟩⟩
        · exact absurd q172 (by decide)
      · exact absurd q171 (by omega)
  · exact absurd hcc (e168.elim (fun q => by omega) (fun q => q.2))
end
section
/-! ===== could, says, sure of the reference (ways printed by wip/v2/mk99i.py) ===== -/
/-- how many of the first m are such -/
def cn (P : Int → Bool) (f : Nat → Int) : Nat → Nat
  | 0 => 0
  | m + 1 => cn P f m + (if P (f m) = true then 1 else 0)
theorem cn_le_m {P : Int → Bool} {f : Nat → Int} : ∀ m : Nat, cn P f m ≤ m
  | 0 => Nat.le_refl 0
  | m + 1 => by
    have := cn_le_m (P := P) (f := f) m
    show cn P f m + (if P (f m) = true then 1 else 0) ≤ m + 1
    split <;> omega
theorem cn_all {P : Int → Bool} {f : Nat → Int} : ∀ m : Nat, (∀ j, j < m → P (f j) = true) → cn P f m = m
  | 0, _ => rfl
  | m + 1, e => by
    show cn P f m + (if P (f m) = true then 1 else 0) = m + 1
    rw [cn_all m (fun j hj => e j (by omega)), if_pos (e m (Nat.lt_succ_self m))]
theorem cn_none {P : Int → Bool} {f : Nat → Int} : ∀ m : Nat, (∀ j, j < m → ¬ P (f j) = true) → cn P f m = 0
  | 0, _ => rfl
  | m + 1, e => by
    show cn P f m + (if P (f m) = true then 1 else 0) = 0
    rw [cn_none m (fun j hj => e j (by omega)), if_neg (e m (Nat.lt_succ_self m))]
/-- one of an enumeration taken out -/
def xo (A : Nat → Int) (i0 last i : Nat) : Int := if i = i0 then A last else A i
theorem cn_ge {P : Int → Bool} {f : Nat → Int} : ∀ (m u : Nat) (A : Nat → Int), (∀ i j, i < u → j < u → A i = A j → i = j) → (∀ i, i < u → P (A i) = true ∧ ∃ j, j < m ∧ f j = A i) → u ≤ cn P f m
  | 0, u, A, _, e => by
    by_cases hu : u = 0
    · omega
    · obtain ⟨_, j, hj, _⟩ := e 0 (by omega)
      exact absurd hj (Nat.not_lt_zero j)
  | m + 1, u, A, inj, e => by
    show u ≤ cn P f m + (if P (f m) = true then 1 else 0)
    by_cases hx : ∃ i0, i0 < u ∧ A i0 = f m
    · obtain ⟨i0, h0, e0⟩ := hx
      have hP : P (f m) = true := e0 ▸ (e i0 h0).1
      rw [if_pos hP]
      have := cn_ge m (u - 1) (xo A i0 (u - 1)) (fun i j hi hj hij => by
        unfold xo at hij
        by_cases qi : i = i0
        · by_cases qj : j = i0
          · omega
          · rw [if_pos qi, if_neg qj] at hij
            have := inj (u - 1) j (by omega) (by omega) hij
            omega
        · by_cases qj : j = i0
          · rw [if_neg qi, if_pos qj] at hij
            have := inj i (u - 1) (by omega) (by omega) hij
            omega
          · rw [if_neg qi, if_neg qj] at hij
            exact inj i j (by omega) (by omega) hij) (fun i hi => by
        have key : ∀ t, t < u → t ≠ i0 → P (A t) = true ∧ ∃ j, j < m ∧ f j = A t := fun t ht ht0 => by
          obtain ⟨p1, j, hj, ej⟩ := e t ht
          refine ⟨p1, j, ?_, ej⟩
          by_cases q : j = m
          · subst q
            exact absurd (inj t i0 ht h0 (ej.symm.trans e0.symm)) ht0
          · omega
        unfold xo
        by_cases qi : i = i0
        · rw [if_pos qi]
          exact key (u - 1) (by omega) (by omega)
        · rw [if_neg qi]
          exact key i (by omega) qi)
      omega
    · have := cn_ge m u A inj (fun i hi => by
        obtain ⟨p1, j, hj, ej⟩ := e i hi
        refine ⟨p1, j, ?_, ej⟩
        by_cases q : j = m
        · subst q
          exact absurd ⟨i, hi, ej.symm⟩ hx
        · omega)
      omega
theorem cn_le {P : Int → Bool} {f : Nat → Int} : ∀ (m u : Nat) (A : Nat → Int), (∀ i j, i < m → j < m → f i = f j → i = j) → (∀ j, j < m → P (f j) = true → ∃ i, i < u ∧ A i = f j) → cn P f m ≤ u
  | 0, u, _, _, _ => Nat.zero_le u
  | m + 1, u, A, inj, e => by
    show cn P f m + (if P (f m) = true then 1 else 0) ≤ u
    by_cases hP : P (f m) = true
    · rw [if_pos hP]
      obtain ⟨i0, h0, e0⟩ := e m (Nat.lt_succ_self m) hP
      have := cn_le m (u - 1) (xo A i0 (u - 1)) (fun i j hi hj hij => inj i j (by omega) (by omega) hij) (fun j hj hp => by
        obtain ⟨i, hi, ei⟩ := e j (by omega) hp
        have hne : i ≠ i0 := fun q => by
          subst q
          have := inj j m (by omega) (Nat.lt_succ_self m) (ei.symm.trans e0)
          omega
        by_cases ql : i = u - 1
        · refine ⟨i0, by omega, ?_⟩
          unfold xo
          rw [if_pos rfl, ← ql]
          exact ei
        · refine ⟨i, by omega, ?_⟩
          unfold xo
          rw [if_neg hne]
          exact ei)
      omega
    · rw [if_neg hP]
      exact cn_le m u A (fun i j hi hj hij => inj i j (by omega) (by omega) hij) (fun j hj hp => e j (by omega) hp)
def lt_x (x v : Int) : Bool := decide (v < x)
/-- what a search by halves finds is the one of that rank -/
theorem cn_rank {f A : Nat → Int} {m u : Nat} (inj : ∀ i j, i < m → j < m → f i = f j → i = j) (hA : ∀ x y, x < y → y < u → A x < A y) (E : ∀ v, (∃ j, j < m ∧ f j = v) ↔ ∃ i, i < u ∧ A i = v) {lo i : Int} (hi : 0 ≤ i) (h1 : (cn (lt_x lo) f m : Int) ≤ i) (h2 : i < (cn (lt_x (lo + 1)) f m : Int)) : i < (u : Int) ∧ A i.toNat = lo := by
  have injA : ∀ {t : Nat}, t ≤ u → ∀ a b, a < t → b < t → A a = A b → a = b := fun {t} ht a b ha hb e => by
    by_cases q : a < b
    · have := hA a b q (by omega); omega
    · by_cases q2 : b < a
      · have := hA b a q2 (by omega); omega
      · omega
  have ex : ∃ j, j < m ∧ f j = lo := Classical.byContradiction fun q => by
    have : cn (lt_x (lo + 1)) f m ≤ cn (lt_x lo) f m := by
      have key : ∀ t, t ≤ m → cn (lt_x (lo + 1)) f t ≤ cn (lt_x lo) f t := by
        intro t
        induction t with
        | zero => intro _; exact Nat.le_refl _
        | succ t ih =>
          intro ht
          have h0 := ih (by omega)
          show cn (lt_x (lo + 1)) f t + (if lt_x (lo + 1) (f t) = true then 1 else 0) ≤ cn (lt_x lo) f t + (if lt_x lo (f t) = true then 1 else 0)
          have hne : f t ≠ lo := fun e => q ⟨t, by omega, e⟩
          have hl : lt_x (lo + 1) (f t) = lt_x lo (f t) := by
            unfold lt_x
            by_cases z : f t < lo
            · rw [decide_eq_true z, decide_eq_true (show f t < lo + 1 by omega)]
            · rw [decide_eq_false z, decide_eq_false (show ¬ f t < lo + 1 by omega)]
          rw [hl]
          omega
      exact key m (Nat.le_refl m)
    omega
  obtain ⟨t, ht, et⟩ := (E lo).mp ex
  have c1 : t ≤ cn (lt_x lo) f m := cn_ge m t A (injA (by omega)) (fun i hi => ⟨by unfold lt_x; rw [decide_eq_true_iff, ← et]; exact hA i t hi ht, (E (A i)).mpr ⟨i, by omega, rfl⟩⟩)
  have c2 : cn (lt_x (lo + 1)) f m ≤ t + 1 := cn_le m (t + 1) A inj (fun j hj hp => by
    unfold lt_x at hp
    rw [decide_eq_true_iff] at hp
    obtain ⟨i, hi, ei⟩ := (E (f j)).mp ⟨j, hj, rfl⟩
    refine ⟨i, ?_, ei⟩
    by_cases q : t < i
    · have := hA t i q hi
      omega
    · omega)
  have e : i = (t : Int) := by omega
  refine ⟨by omega, ?_⟩
  rw [e]
  exact et
/-- two enumerations of one set are as long -/
theorem cn_same {f A : Nat → Int} {m u : Nat} (inj : ∀ i j, i < m → j < m → f i = f j → i = j) (hA : ∀ x y, x < y → y < u → A x < A y) (E : ∀ v, (∃ j, j < m ∧ f j = v) ↔ ∃ i, i < u ∧ A i = v) : u = m := by
  have injA : ∀ a b, a < u → b < u → A a = A b → a = b := fun a b ha hb e => by
    by_cases q : a < b
    · have := hA a b q hb; omega
    · by_cases q2 : b < a
      · have := hA b a q2 ha; omega
      · omega
  have a1 : u ≤ m := Nat.le_trans (cn_ge (P := fun _ => true) (f := f) m u A injA (fun i hi => ⟨rfl, (E (A i)).mpr ⟨i, hi, rfl⟩⟩)) (cn_le_m m)
  have a2 : m ≤ u := by
    have := cn_le (P := fun _ => true) (f := f) m u A inj (fun j hj _ => (E (f j)).mp ⟨j, hj, rfl⟩)
    rw [cn_all m (fun _ _ => rfl)] at this
    exact this
  omega
def sr_c (h : ax_H) (a : Int32) : Prop := 0 ≤ a.toInt ∧ a.toInt < ab_ri h 542 4
def sr_s (h : ax_H) : Prop := ab_ri h 542 14 = 0 ∨ ab_ri h 542 24 = 30
set_option maxRecDepth 100000 in
theorem xr_shut {l : Launch} {G : ax_T} {d : Nat} {h : ax_H} {n : Nat} (hd : 1 ≤ d) (H : mc_HW h n) : mc_M l G d mt_X11_isShut [.ref 542] h n (mc_P h n fun y => y.toInt = 1 ∧ sr_s h ∨ y.toInt = 0 ∧ ¬ sr_s h) := by
  obtain ⟨d, rfl⟩ : ∃ e, d = e + 1 := ⟨d - 1, by omega⟩
  have hmi : mt_X11_isShut ∈ mt_prog := List.mem_of_getElem? mi_X11_isShut
  unfold sr_s
  refine mc_to hmi rfl ?_
  show mc_R _ _ _ _ _ (0, [(0, .ref 542)], [], h, n, 0, 0)
  refine mc_cx hmi 1 (F' := (1, [(0, .ref 542)], [.ref 542], h, n, 0, 0)) (by with_unfolding_all rfl) ?_
  refine mc_geti hmi H (k := 542) (j := 14) (pc' := 4) rfl rfl rfl rfl (fun y101 (e102 : y101.toInt = ab_ri h 542 14) r103 r104 => ?_)
  rw [e102] at r103 r104
  refine mc_cz hmi (c := .eq) (tg := 16) (pc' := 7) rfl rfl rfl e102 (fun (q105 : ab_ri h 542 14 = 0) => ?_) (fun (q105 : ab_ri h 542 14 ≠ 0) => ?_)
  · refine mc_cx hmi 2 (F' := (21, [(0, .ref 542)], [.int (Int32.ofInt 1)], h, n, 0, 0)) (by with_unfolding_all rfl) ?_
    exact mc_ret hmi rfl rfl (mc_rb (by decide)) ⟨rfl, rfl, _, rfl, Or.inl ⟨by decide, Or.inl q105⟩⟩
  · refine mc_cx hmi 1 (F' := (8, [(0, .ref 542)], [.ref 542], h, n, 0, 0)) (by with_unfolding_all rfl) ?_
    refine mc_geti hmi H (k := 542) (j := 24) (pc' := 11) rfl rfl rfl rfl (fun y106 (e107 : y106.toInt = ab_ri h 542 24) r108 r109 => ?_)
    rw [e107] at r108 r109
    refine mc_cx hmi 1 (F' := (13, [(0, .ref 542)], [.int (Int8.ofInt 30).toInt32, .int y106], h, n, 0, 0)) (by with_unfolding_all rfl) ?_
    refine mc_ci hmi (c := .ne) (tg := 20) (pc' := 16) rfl rfl rfl e107 (by decide) (fun (q110 : ab_ri h 542 24 ≠ 30) => ?_) (fun (q110 : ab_ri h 542 24 = 30) => ?_)
    · refine mc_cx hmi 1 (F' := (21, [(0, .ref 542)], [.int (Int32.ofInt 0)], h, n, 0, 0)) (by with_unfolding_all rfl) ?_
      exact mc_ret hmi rfl rfl (mc_rb (by decide)) ⟨rfl, rfl, _, rfl, Or.inr ⟨by decide, fun z => z.elim q105 q110⟩⟩
    · refine mc_cx hmi 2 (F' := (21, [(0, .ref 542)], [.int (Int32.ofInt 1)], h, n, 0, 0)) (by with_unfolding_all rfl) ?_
      exact mc_ret hmi rfl rfl (mc_rb (by decide)) ⟨rfl, rfl, _, rfl, Or.inl ⟨by decide, Or.inr q110⟩⟩
set_option maxRecDepth 100000 in
theorem zr_could {l : Launch} {G : ax_T} {d : Nat} {h : ax_H} {n : Nat} (hd : 3 ≤ d) (H : mc_HW h n) (a : Int32) (hf : ¬ (sr_c h a ∧ ¬ sr_s h)) : mc_M l G d mt_X11_could [.ref 542, .int a] h n (mc_P h n fun y => ¬ sr_c h a ∧ y.toInt = -101 ∨ sr_c h a ∧ sr_s h ∧ y.toInt = -103) := by
  obtain ⟨d, rfl⟩ : ∃ e, d = e + 1 := ⟨d - 1, by omega⟩
  have hmi : mt_X11_could ∈ mt_prog := List.mem_of_getElem? mi_X11_could
  refine mc_to hmi rfl ?_
  show mc_R _ _ _ _ _ (0, [(0, .ref 542), (1, .int a)], [], h, n, 0, 0)
  refine mc_cx hmi 2 (F' := (2, [(0, .ref 542), (1, .int a)], [.int a, .ref 542], h, n, 0, 0)) (by with_unfolding_all rfl) ?_
  refine mc_callP hmi (en := (2, .invokevirtual 138, 3, (3, 160, 11, 0), [1307, 78, 1305])) rfl (q := (mt_X11_isCustom, [.ref 542, .int a], [])) (mc_inv H (as := [.int a]) (rest := []) rfl (by with_unfolding_all rfl) rfl rfl rfl) ⟨rfl, rfl⟩ (pc' := 5) rfl (ak_c11 (by omega) H a) (fun y111 e112 => ?_)
  refine mc_cz hmi (c := .ne) (tg := 11) (pc' := 8) rfl rfl rfl rfl (fun (q113 : y111.toInt ≠ 0) => ?_) (fun (q113 : y111.toInt = 0) => ?_)
  · have hcc : sr_c h a := e112.elim (fun q => q.2) (fun q => absurd q.1 q113)
    have hs : sr_s h := Classical.byContradiction fun q => hf ⟨hcc, q⟩
    refine mc_cx hmi 1 (F' := (12, [(0, .ref 542), (1, .int a)], [.ref 542], h, n, 0, 0)) (by with_unfolding_all rfl) ?_
    refine mc_callP hmi (en := (12, .invokevirtual 275, 3, (3, 211, 11, 0), [1482, 97, 1480])) rfl (q := (mt_X11_isShut, [.ref 542], [])) (mc_inv H (as := []) (rest := []) rfl (by with_unfolding_all rfl) rfl rfl rfl) ⟨rfl, rfl⟩ (pc' := 15) rfl (xr_shut (by omega) H) (fun y114 e115 => ?_)
    refine mc_cz hmi (c := .eq) (tg := 21) (pc' := 18) rfl rfl rfl rfl (fun (q116 : y114.toInt = 0) => ?_) (fun (q116 : y114.toInt ≠ 0) => ?_)
    · exact absurd hs (e115.elim (fun q => absurd q.1 (by omega)) (fun q => q.2))
    · refine mc_cx hmi 1 (F' := (20, [(0, .ref 542), (1, .int a)], [.int (Int8.ofInt (-103)).toInt32], h, n, 0, 0)) (by with_unfolding_all rfl) ?_
      exact mc_ret hmi rfl rfl rfl ⟨rfl, rfl, _, rfl, Or.inr ⟨hcc, hs, by decide⟩⟩
  · refine mc_cx hmi 1 (F' := (10, [(0, .ref 542), (1, .int a)], [.int (Int8.ofInt (-101)).toInt32], h, n, 0, 0)) (by with_unfolding_all rfl) ?_
    exact mc_ret hmi rfl rfl rfl ⟨rfl, rfl, _, rfl, Or.inl ⟨fun z => e112.elim (fun q => by omega) (fun q => q.2 z), by decide⟩⟩
set_option maxRecDepth 100000 in
theorem zr_says {l : Launch} {G : ax_T} {d : Nat} {h : ax_H} {n : Nat} (hd : 3 ≤ d) (H : mc_HW h n) (a i : Int32) (hf : ¬ (sr_c h a ∧ ¬ sr_s h)) : mc_M l G d mt_X11_says [.ref 542, .int a, .int i] h n (mc_P h n fun y => ¬ sr_c h a ∧ y.toInt = -101 ∨ sr_c h a ∧ sr_s h ∧ y.toInt = -103) := by
  obtain ⟨d, rfl⟩ : ∃ e, d = e + 1 := ⟨d - 1, by omega⟩
  have hmi : mt_X11_says ∈ mt_prog := List.mem_of_getElem? mi_X11_says
  refine mc_to hmi rfl ?_
  show mc_R _ _ _ _ _ (0, [(0, .ref 542), (1, .int a), (2, .int i)], [], h, n, 0, 0)
  refine mc_cx hmi 2 (F' := (2, [(0, .ref 542), (1, .int a), (2, .int i)], [.int a, .ref 542], h, n, 0, 0)) (by with_unfolding_all rfl) ?_
  refine mc_callP hmi (en := (2, .invokevirtual 138, 3, (3, 160, 11, 0), [1307, 78, 1305])) rfl (q := (mt_X11_isCustom, [.ref 542, .int a], [])) (mc_inv H (as := [.int a]) (rest := []) rfl (by with_unfolding_all rfl) rfl rfl rfl) ⟨rfl, rfl⟩ (pc' := 5) rfl (ak_c11 (by omega) H a) (fun y117 e118 => ?_)
  refine mc_cz hmi (c := .ne) (tg := 11) (pc' := 8) rfl rfl rfl rfl (fun (q119 : y117.toInt ≠ 0) => ?_) (fun (q119 : y117.toInt = 0) => ?_)
  · have hcc : sr_c h a := e118.elim (fun q => q.2) (fun q => absurd q.1 q119)
    have hs : sr_s h := Classical.byContradiction fun q => hf ⟨hcc, q⟩
    refine mc_cx hmi 1 (F' := (12, [(0, .ref 542), (1, .int a), (2, .int i)], [.ref 542], h, n, 0, 0)) (by with_unfolding_all rfl) ?_
    refine mc_callP hmi (en := (12, .invokevirtual 275, 3, (3, 211, 11, 0), [1482, 97, 1480])) rfl (q := (mt_X11_isShut, [.ref 542], [])) (mc_inv H (as := []) (rest := []) rfl (by with_unfolding_all rfl) rfl rfl rfl) ⟨rfl, rfl⟩ (pc' := 15) rfl (xr_shut (by omega) H) (fun y120 e121 => ?_)
    refine mc_cz hmi (c := .eq) (tg := 21) (pc' := 18) rfl rfl rfl rfl (fun (q122 : y120.toInt = 0) => ?_) (fun (q122 : y120.toInt ≠ 0) => ?_)
    · exact absurd hs (e121.elim (fun q => absurd q.1 (by omega)) (fun q => q.2))
    · refine mc_cx hmi 1 (F' := (20, [(0, .ref 542), (1, .int a), (2, .int i)], [.int (Int8.ofInt (-103)).toInt32], h, n, 0, 0)) (by with_unfolding_all rfl) ?_
      exact mc_ret hmi rfl rfl rfl ⟨rfl, rfl, _, rfl, Or.inr ⟨hcc, hs, by decide⟩⟩
  · refine mc_cx hmi 1 (F' := (10, [(0, .ref 542), (1, .int a), (2, .int i)], [.int (Int8.ofInt (-101)).toInt32], h, n, 0, 0)) (by with_unfolding_all rfl) ?_
    exact mc_ret hmi rfl rfl rfl ⟨rfl, rfl, _, rfl, Or.inl ⟨fun z => e118.elim (fun q => by omega) (fun q => q.2 z), by decide⟩⟩
set_option maxRecDepth 100000 in
theorem zr_sure {l : Launch} {G : ax_T} {d : Nat} {h : ax_H} {n : Nat} (hd : 3 ≤ d) (H : mc_HW h n) (a i : Int32) (hf : ¬ (sr_c h a ∧ (0 ≤ i.toInt ∧ i.toInt < 20) ∧ ¬ sr_s h)) : mc_M l G d mt_X11_sure [.ref 542, .int a, .int i] h n (mc_P h n fun y => ¬ sr_c h a ∧ y.toInt = -101 ∨ sr_c h a ∧ ¬ (0 ≤ i.toInt ∧ i.toInt < 20) ∧ y.toInt = -102 ∨ sr_c h a ∧ (0 ≤ i.toInt ∧ i.toInt < 20) ∧ sr_s h ∧ y.toInt = -103) := by
  obtain ⟨d, rfl⟩ : ∃ e, d = e + 1 := ⟨d - 1, by omega⟩
  have hmi : mt_X11_sure ∈ mt_prog := List.mem_of_getElem? mi_X11_sure
  refine mc_to hmi rfl ?_
  show mc_R _ _ _ _ _ (0, [(0, .ref 542), (1, .int a), (2, .int i)], [], h, n, 0, 0)
  refine mc_cx hmi 2 (F' := (2, [(0, .ref 542), (1, .int a), (2, .int i)], [.int a, .ref 542], h, n, 0, 0)) (by with_unfolding_all rfl) ?_
  refine mc_callP hmi (en := (2, .invokevirtual 138, 3, (3, 160, 11, 0), [1307, 78, 1305])) rfl (q := (mt_X11_isCustom, [.ref 542, .int a], [])) (mc_inv H (as := [.int a]) (rest := []) rfl (by with_unfolding_all rfl) rfl rfl rfl) ⟨rfl, rfl⟩ (pc' := 5) rfl (ak_c11 (by omega) H a) (fun y123 e124 => ?_)
  refine mc_cz hmi (c := .ne) (tg := 11) (pc' := 8) rfl rfl rfl rfl (fun (q125 : y123.toInt ≠ 0) => ?_) (fun (q125 : y123.toInt = 0) => ?_)
  · have hcc : sr_c h a := e124.elim (fun q => q.2) (fun q => absurd q.1 q125)
    refine mc_cx hmi 3 (F' := (15, [(0, .ref 542), (1, .int a), (2, .int i)], [.int (Int8.ofInt 19).toInt32, .int (Int32.ofInt 0), .int i], h, n, 0, 0)) (by with_unfolding_all rfl) ?_
    refine mc_callP hmi (en := (15, .invokestatic 120, 3, (3, 152, 0, 0), [1291, 1290])) rfl (q := (mt_X11_in, [.int i, .int (Int32.ofInt 0), .int (Int8.ofInt 19).toInt32], [])) (by with_unfolding_all rfl) ⟨rfl, rfl⟩ (pc' := 18) rfl (mc_inP (by omega) i (Int32.ofInt 0) ((Int8.ofInt 19).toInt32) h n) (fun y126 e127 => ?_)
    rw [show (Int32.ofInt 0).toInt = 0 from by decide, show ((Int8.ofInt 19).toInt32).toInt = 19 from by decide] at e127
    refine mc_cz hmi (c := .ne) (tg := 24) (pc' := 21) rfl rfl rfl rfl (fun (q128 : y126.toInt ≠ 0) => ?_) (fun (q128 : y126.toInt = 0) => ?_)
    · have hin : (0 ≤ i.toInt ∧ i.toInt < 20) := e127.elim (fun q => ⟨q.2.1, by omega⟩) (fun q => absurd q.1 q128)
      have hs : sr_s h := Classical.byContradiction fun q => hf ⟨hcc, hin, q⟩
      refine mc_cx hmi 1 (F' := (25, [(0, .ref 542), (1, .int a), (2, .int i)], [.ref 542], h, n, 0, 0)) (by with_unfolding_all rfl) ?_
      refine mc_callP hmi (en := (25, .invokevirtual 275, 3, (3, 211, 11, 0), [1482, 97, 1480])) rfl (q := (mt_X11_isShut, [.ref 542], [])) (mc_inv H (as := []) (rest := []) rfl (by with_unfolding_all rfl) rfl rfl rfl) ⟨rfl, rfl⟩ (pc' := 28) rfl (xr_shut (by omega) H) (fun y129 e130 => ?_)
      refine mc_cz hmi (c := .eq) (tg := 34) (pc' := 31) rfl rfl rfl rfl (fun (q131 : y129.toInt = 0) => ?_) (fun (q131 : y129.toInt ≠ 0) => ?_)
      · exact absurd hs (e130.elim (fun q => absurd q.1 (by omega)) (fun q => q.2))
      · refine mc_cx hmi 1 (F' := (33, [(0, .ref 542), (1, .int a), (2, .int i)], [.int (Int8.ofInt (-103)).toInt32], h, n, 0, 0)) (by with_unfolding_all rfl) ?_
        exact mc_ret hmi rfl rfl rfl ⟨rfl, rfl, _, rfl, Or.inr (Or.inr ⟨hcc, hin, hs, by decide⟩)⟩
    · refine mc_cx hmi 1 (F' := (23, [(0, .ref 542), (1, .int a), (2, .int i)], [.int (Int8.ofInt (-102)).toInt32], h, n, 0, 0)) (by with_unfolding_all rfl) ?_
      exact mc_ret hmi rfl rfl rfl ⟨rfl, rfl, _, rfl, Or.inr (Or.inl ⟨hcc, fun z => e127.elim (fun q => absurd q.1 (by omega)) (fun q => q.2 ⟨z.1, by omega⟩), by decide⟩)⟩
  · refine mc_cx hmi 1 (F' := (10, [(0, .ref 542), (1, .int a), (2, .int i)], [.int (Int8.ofInt (-101)).toInt32], h, n, 0, 0)) (by with_unfolding_all rfl) ?_
    exact mc_ret hmi rfl rfl rfl ⟨rfl, rfl, _, rfl, Or.inl ⟨fun z => e124.elim (fun q => by omega) (fun q => q.2 z), by decide⟩⟩
/-- what filling all leaves in the reference -/
def RFQ (h : ax_H) (n p : Nat) (sg : Nat → Nat) (b : Prop) (K : df_K) (h' : ax_H) (n' : Nat) : Prop := n' = n ∧ mc_HW h' n ∧ RS h' p (fl_F K p sg b) ∧ ab_ri h' 542 24 = ab_ri h 542 24 + 1 ∧ ∀ (k' : Nat) (i' : Int), k' ≠ 568 → k' ≠ 569 → k' ≠ 570 → k' ≠ 571 → (k' = 542 → i' ≠ 37 ∧ i' ≠ 24) → ab_rd h' k' i' = ab_rd h k' i'
/-- the reference's stone -/
def RT (h : ax_H) (p : Nat) (sg : Nat → Nat) (b : Prop) : Prop := ab_ri h 542 14 = (p : Int) ∧ (∀ i : Nat, i < p → ab_ri h 554 (i : Int) = (sg i : Int)) ∧ (ab_ri h 542 15 = 0 ∧ ¬ b ∨ ab_ri h 542 15 ≠ 0 ∧ b) ∧ ab_gc h 554 (ab_ri h 542 14).toNat ≤ 3
theorem RT_fr {h h' : ax_H} {p : Nat} {sg : Nat → Nat} {b : Prop} (hp : p ≤ 20) (e14 : ab_rd h' 542 14 = ab_rd h 542 14) (e15 : ab_rd h' 542 15 = ab_rd h 542 15) (e : ∀ i : Nat, i < 20 → ab_rd h' 554 (i : Int) = ab_rd h 554 (i : Int)) (S : RT h p sg b) : RT h' p sg b := by
  obtain ⟨a1, a2, a3, a4⟩ := S
  refine ⟨(ab_ri_of e14).trans a1, fun i hi => (ab_ri_of (e i (by omega))).trans (a2 i hi), by rw [ab_ri_of e15]; exact a3, ?_⟩
  rw [ab_ri_of e14, ab_gc_of _ (fun i hi => e i (by rw [a1] at hi; omega))]
  exact a4
set_option maxRecDepth 100000 in
theorem fx_M {l : Launch} {G : ax_T} {d : Nat} {h : ax_H} {n : Nat} (hd : 5 ≤ d) (H : mc_HW h n) (k : Int32) {kk : Nat} (hk : k.toInt = (kk : Int)) (hk5 : kk < 6) {K : df_K} (hK : kz_K h kk K) (hG : df_G K) {p : Nat} {sg : Nat → Nat} {b : Prop} (S : RT h p sg b) (hp1 : 1 ≤ p) : mc_M l G d mt_X11_fillAll [.ref 542, .int k] h n (fun r' h' n' => n' = n ∧ r' = none ∧ mc_HW h' n ∧ FRF h h' ∧ RS h' p (fl_F K p sg b)) := by
  obtain ⟨d, rfl⟩ : ∃ e, d = e + 1 := ⟨d - 1, by omega⟩
  obtain ⟨s1, s2, s3, s4⟩ := S
  exact mc_to (List.mem_of_getElem? mi_X11_fillAll) rfl (fx_fillAll (by omega) H k hk hk5 hK hG s1 hp1 s2 s3 s4)
/-- the worths said are small -/
theorem RS_bd {h : ax_H} {p : Nat} {sg : Nat → Nat} {b : Prop} {K : df_K} (hp : p ≤ 20) {m : Nat} (S : SD h m (fl_W (fl_F K p sg b))) (j : Nat) (hj : j < m) : -21000000 ≤ ab_ri h 568 (j : Int) ∧ ab_ri h 568 (j : Int) ≤ 21000000 := by
  obtain ⟨s, g, ⟨e1, a1, -⟩, e2⟩ := (S.2.1 (ab_ri h 568 (j : Int))).mpr ⟨j, hj, rfl⟩
  have hs : s ≤ 21 := by
    rcases e1 with q | q
    · omega
    · have := q.2; omega
  have := wo_b (f := g) (s := s) (fun i hi => (a1 i hi).1) s (Nat.le_refl s)
  omega
set_option maxHeartbeats 4000000 in
set_option maxRecDepth 100000 in
theorem ss_in {l : Launch} {G : ax_T} {d : Nat} {h : ax_H} {n : Nat} (H : mc_HW h n) {m : Nat} (hm : ab_ri h 542 37 = (m : Int)) (hm4 : m ≤ 40000) {a i lo hi mid : Int32} {x : Int} (hx : mid.toInt = x) {Q : Option Value → ax_H → Nat → Prop} (kk : ∀ c : Int32, c.toInt = (cn (lt_x x) (fun t : Nat => ab_ri h 568 (t : Int)) m : Int) → mc_R l G mt_X11_says d Q (122, [(0, .ref 542), (1, .int a), (2, .int i), (3, .int lo), (4, .int hi), (5, .int mid), (6, .int c)], [], h, n, 0, 0)) : ∀ (e jj : Nat) (c j : Int32), jj + e = m → j.toInt = (jj : Int) → c.toInt = (cn (lt_x x) (fun t : Nat => ab_ri h 568 (t : Int)) jj : Int) → mc_R l G mt_X11_says d Q (85, [(0, .ref 542), (1, .int a), (2, .int i), (3, .int lo), (4, .int hi), (5, .int mid), (6, .int c), (7, .int j)], [], h, n, 0, 0) := by
  have hmi : mt_X11_says ∈ mt_prog := List.mem_of_getElem? mi_X11_says
  intro e
  induction e with
  | zero =>
    intro jj c j he hj hc
    have hcm := cn_le_m (P := lt_x x) (f := (fun t : Nat => ab_ri h 568 (t : Int))) jj
    obtain ⟨C, hC⟩ : ∃ C, C = cn (lt_x x) (fun t : Nat => ab_ri h 568 (t : Int)) jj := ⟨_, rfl⟩
    rw [← hC] at hc hcm
    refine mc_cx hmi 2 (F' := (88, [(0, .ref 542), (1, .int a), (2, .int i), (3, .int lo), (4, .int hi), (5, .int mid), (6, .int c), (7, .int j)], [.ref 542, .int j], h, n, 0, 0)) (by with_unfolding_all rfl) ?_
    refine mc_geti hmi H (k := 542) (j := 37) (pc' := 91) rfl rfl rfl rfl (fun y132 (e133 : y132.toInt = ab_ri h 542 37) r134 r135 => ?_)
    rw [e133] at r134 r135
    rw [hm] at e133
    refine mc_ci hmi (c := .ge) (tg := 122) (pc' := 94) rfl rfl rfl hj e133 (fun (q136 : (m : Int) ≤ (jj : Int)) => ?_) (fun (q136 : (jj : Int) < (m : Int)) => ?_)
    · refine mc_lvs (lv' := [(0, .ref 542), (1, .int a), (2, .int i), (3, .int lo), (4, .int hi), (5, .int mid), (6, .int c)]) (by simp) ?_
      obtain rfl : jj = m := by omega
      exact kk c (by rw [hc, hC])
    · exact absurd q136 (by omega)
  | succ e ih =>
    intro jj c j he hj hc
    have hcm := cn_le_m (P := lt_x x) (f := (fun t : Nat => ab_ri h 568 (t : Int))) jj
    obtain ⟨C, hC⟩ : ∃ C, C = cn (lt_x x) (fun t : Nat => ab_ri h 568 (t : Int)) jj := ⟨_, rfl⟩
    rw [← hC] at hc hcm
    refine mc_cx hmi 2 (F' := (88, [(0, .ref 542), (1, .int a), (2, .int i), (3, .int lo), (4, .int hi), (5, .int mid), (6, .int c), (7, .int j)], [.ref 542, .int j], h, n, 0, 0)) (by with_unfolding_all rfl) ?_
    refine mc_geti hmi H (k := 542) (j := 37) (pc' := 91) rfl rfl rfl rfl (fun y137 (e138 : y137.toInt = ab_ri h 542 37) r139 r140 => ?_)
    rw [e138] at r139 r140
    rw [hm] at e138
    refine mc_ci hmi (c := .ge) (tg := 122) (pc' := 94) rfl rfl rfl hj e138 (fun (q141 : (m : Int) ≤ (jj : Int)) => ?_) (fun (q141 : (jj : Int) < (m : Int)) => ?_)
    · exact absurd q141 (by omega)
    · refine mc_cx hmi 2 (F' := (97, [(0, .ref 542), (1, .int a), (2, .int i), (3, .int lo), (4, .int hi), (5, .int mid), (6, .int c), (7, .int j)], [.ref 542, .int c], h, n, 0, 0)) (by with_unfolding_all rfl) ?_
      refine mc_getr hmi H (k := 542) (c := 568) (pc' := 100) rfl rfl rfl rfl rfl ?_
      refine mc_cx hmi 1 (F' := (102, [(0, .ref 542), (1, .int a), (2, .int i), (3, .int lo), (4, .int hi), (5, .int mid), (6, .int c), (7, .int j)], [.int j, .ref 568, .int c], h, n, 0, 0)) (by with_unfolding_all rfl) ?_
      refine mc_iald hmi H (k := 568) (i := (jj : Int)) (pc' := 103) rfl rfl rfl hj (by omega) (by omega) rfl (fun y142 e143 r144 r145 => ?_)
      rw [e143] at r144 r145
      refine mc_cx hmi 1 (F' := (105, [(0, .ref 542), (1, .int a), (2, .int i), (3, .int lo), (4, .int hi), (5, .int mid), (6, .int c), (7, .int j)], [.int mid, .int y142, .int c], h, n, 0, 0)) (by with_unfolding_all rfl) ?_
      refine mc_ci hmi (c := .ge) (tg := 112) (pc' := 108) rfl rfl rfl e143 hx (fun (q146 : x ≤ ab_ri h 568 ((jj : Int))) => ?_) (fun (q146 : ab_ri h 568 ((jj : Int)) < x) => ?_)
      · have hs : cn (lt_x x) (fun t : Nat => ab_ri h 568 (t : Int)) (jj + 1) = C + 0 := by
          show cn (lt_x x) (fun t : Nat => ab_ri h 568 (t : Int)) jj + (if lt_x x (ab_ri h 568 (jj : Int)) = true then 1 else 0) = _
          rw [← hC, if_neg (by unfold lt_x; rw [decide_eq_true_iff]; omega)]
        refine mc_cx hmi 5 (F' := (85, [(7, .int (j + Int32.ofInt 1)), (6, .int (c + (Int32.ofInt 0))), (0, .ref 542), (1, .int a), (2, .int i), (3, .int lo), (4, .int hi), (5, .int mid)], [], h, n, 0, 0)) (by with_unfolding_all rfl) ?_
        have e147 : (c + (Int32.ofInt 0)).toInt = (C : Int) + 0 := mc_add hc (by decide) (by omega) (by omega)
        have e148 : (j + Int32.ofInt 1).toInt = (jj : Int) + 1 := mc_add hj (by decide) (by omega) (by omega)
        refine mc_lvs (lv' := [(0, .ref 542), (1, .int a), (2, .int i), (3, .int lo), (4, .int hi), (5, .int mid), (6, .int (c + (Int32.ofInt 0))), (7, .int (j + Int32.ofInt 1))]) (by simp) ?_
        exact ih (jj + 1) (c + (Int32.ofInt 0)) (j + Int32.ofInt 1) (by omega) (by rw [e148]; omega) (by rw [e147, hs]; omega)
      · have hs : cn (lt_x x) (fun t : Nat => ab_ri h 568 (t : Int)) (jj + 1) = C + 1 := by
          show cn (lt_x x) (fun t : Nat => ab_ri h 568 (t : Int)) jj + (if lt_x x (ab_ri h 568 (jj : Int)) = true then 1 else 0) = _
          rw [← hC, if_pos (by unfold lt_x; rw [decide_eq_true_iff]; omega)]
        refine mc_cx hmi 6 (F' := (85, [(7, .int (j + Int32.ofInt 1)), (6, .int (c + (Int32.ofInt 1))), (0, .ref 542), (1, .int a), (2, .int i), (3, .int lo), (4, .int hi), (5, .int mid)], [], h, n, 0, 0)) (by with_unfolding_all rfl) ?_
        have e149 : (c + (Int32.ofInt 1)).toInt = (C : Int) + 1 := mc_add hc (by decide) (by omega) (by omega)
        have e150 : (j + Int32.ofInt 1).toInt = (jj : Int) + 1 := mc_add hj (by decide) (by omega) (by omega)
        refine mc_lvs (lv' := [(0, .ref 542), (1, .int a), (2, .int i), (3, .int lo), (4, .int hi), (5, .int mid), (6, .int (c + (Int32.ofInt 1))), (7, .int (j + Int32.ofInt 1))]) (by simp) ?_
        exact ih (jj + 1) (c + (Int32.ofInt 1)) (j + Int32.ofInt 1) (by omega) (by rw [e150]; omega) (by rw [e149, hs]; omega)
set_option maxHeartbeats 4000000 in
set_option maxRecDepth 100000 in
theorem ss_out {l : Launch} {G : ax_T} {d : Nat} {h : ax_H} {n : Nat} (H : mc_HW h n) {m : Nat} (hm : ab_ri h 542 37 = (m : Int)) (hm4 : m ≤ 40000) {a i : Int32} {ii : Int} (hii : i.toInt = ii) : ∀ (e : Nat) (lo hi : Int32) (x z : Int), lo.toInt = x → hi.toInt = z → -1000000000 ≤ x → x < z → z ≤ 1000000000 → z - x ≤ (e : Int) → (cn (lt_x x) (fun t : Nat => ab_ri h 568 (t : Int)) m : Int) ≤ ii → ii < (cn (lt_x z) (fun t : Nat => ab_ri h 568 (t : Int)) m : Int) → mc_R l G mt_X11_says d (mc_P h n fun y => (cn (lt_x y.toInt) (fun t : Nat => ab_ri h 568 (t : Int)) m : Int) ≤ ii ∧ ii < (cn (lt_x (y.toInt + 1)) (fun t : Nat => ab_ri h 568 (t : Int)) m : Int)) (61, [(0, .ref 542), (1, .int a), (2, .int i), (3, .int lo), (4, .int hi)], [], h, n, 0, 0) := by
  have hmi : mt_X11_says ∈ mt_prog := List.mem_of_getElem? mi_X11_says
  intro e
  induction e with
  | zero =>
    intro lo hi x z hx hz b1 b2 b3 he c1 c2
    exact absurd he (by omega)
  | succ e ih =>
    intro lo hi x z hx hz b1 b2 b3 he c1 c2
    refine mc_cx hmi 4 (F' := (66, [(0, .ref 542), (1, .int a), (2, .int i), (3, .int lo), (4, .int hi)], [.int (Int32.ofInt 1), .int (hi - lo)], h, n, 0, 0)) (by with_unfolding_all rfl) ?_
    have e151 : (hi - lo).toInt = z - x := mc_sub hz hx (by omega) (by omega)
    refine mc_ci hmi (c := .le) (tg := 141) (pc' := 69) rfl rfl rfl e151 (by decide) (fun (q152 : (z - x) ≤ 1) => ?_) (fun (q152 : 1 < (z - x)) => ?_)
    · refine mc_cx hmi 1 (F' := (142, [(0, .ref 542), (1, .int a), (2, .int i), (3, .int lo), (4, .int hi)], [.int lo], h, n, 0, 0)) (by with_unfolding_all rfl) ?_
      refine mc_ret hmi rfl rfl rfl ⟨rfl, rfl, _, rfl, ?_⟩
      show (cn (lt_x lo.toInt) (fun t : Nat => ab_ri h 568 (t : Int)) m : Int) ≤ ii ∧ ii < (cn (lt_x (lo.toInt + 1)) (fun t : Nat => ab_ri h 568 (t : Int)) m : Int)
      rw [hx, show x + 1 = z by omega]
      exact ⟨c1, c2⟩
    · refine mc_cx hmi 5 (F' := (75, [(0, .ref 542), (1, .int a), (2, .int i), (3, .int lo), (4, .int hi)], [.int (Int32.ofInt 2), .int (hi - lo), .int lo], h, n, 0, 0)) (by with_unfolding_all rfl) ?_
      have e153 : (hi - lo).toInt = z - x := mc_sub hz hx (by omega) (by omega)
      have e154 : ((hi - lo) / (Int32.ofInt 2)).toInt = (z - x) / 2 := mc_div e153 (by decide) (by omega) (by omega)
      refine mc_idiv hmi (pc' := 76) rfl (show (Int32.ofInt 2).toInt ≠ 0 from by decide) rfl ?_
      refine mc_cx hmi 6 (F' := (85, [(7, .int (Int32.ofInt 0)), (6, .int (Int32.ofInt 0)), (5, .int (lo + ((hi - lo) / (Int32.ofInt 2)))), (0, .ref 542), (1, .int a), (2, .int i), (3, .int lo), (4, .int hi)], [], h, n, 0, 0)) (by with_unfolding_all rfl) ?_
      have e155 : (lo + ((hi - lo) / (Int32.ofInt 2))).toInt = x + ((z - x) / 2) := mc_add hx e154 (by omega) (by omega)
      refine mc_lvs (lv' := [(0, .ref 542), (1, .int a), (2, .int i), (3, .int lo), (4, .int hi), (5, .int (lo + ((hi - lo) / (Int32.ofInt 2)))), (6, .int (Int32.ofInt 0)), (7, .int (Int32.ofInt 0))]) (by simp) ?_
      obtain ⟨M, hM⟩ : ∃ M : Int, M = x + (z - x) / 2 := ⟨_, rfl⟩
      have hmid : (lo + ((hi - lo) / (Int32.ofInt 2))).toInt = M := by rw [e155, hM]
      have hM1 : x < M := by omega
      have hM2 : M < z := by omega
      refine ss_in H hm hm4 hmid (fun c hc => ?_) m 0 (Int32.ofInt 0) (Int32.ofInt 0) (Nat.zero_add m) (by decide) (show (Int32.ofInt 0).toInt = ((0 : Nat) : Int) from by decide)
      refine mc_cx hmi 2 (F' := (125, [(0, .ref 542), (1, .int a), (2, .int i), (3, .int lo), (4, .int hi), (5, .int (lo + ((hi - lo) / (Int32.ofInt 2)))), (6, .int c)], [.int i, .int c], h, n, 0, 0)) (by with_unfolding_all rfl) ?_
      refine mc_ci hmi (c := .gt) (tg := 134) (pc' := 128) rfl rfl rfl hc hii (fun (q156 : ii < (cn (lt_x M) (fun t : Nat => ab_ri h 568 (t : Int)) m : Int)) => ?_) (fun (q156 : (cn (lt_x M) (fun t : Nat => ab_ri h 568 (t : Int)) m : Int) ≤ ii) => ?_)
      · refine mc_cx hmi 3 (F' := (61, [(4, .int (lo + ((hi - lo) / (Int32.ofInt 2)))), (0, .ref 542), (1, .int a), (2, .int i), (3, .int lo), (5, .int (lo + ((hi - lo) / (Int32.ofInt 2)))), (6, .int c)], [], h, n, 0, 0)) (by with_unfolding_all rfl) ?_
        refine mc_lvs (lv' := [(0, .ref 542), (1, .int a), (2, .int i), (3, .int lo), (4, .int (lo + ((hi - lo) / (Int32.ofInt 2))))]) (by simp) ?_
        exact ih lo (lo + ((hi - lo) / (Int32.ofInt 2))) x M hx hmid b1 hM1 (by omega) (by omega) c1 q156
      · refine mc_cx hmi 4 (F' := (61, [(3, .int (lo + ((hi - lo) / (Int32.ofInt 2)))), (0, .ref 542), (1, .int a), (2, .int i), (4, .int hi), (5, .int (lo + ((hi - lo) / (Int32.ofInt 2)))), (6, .int c)], [], h, n, 0, 0)) (by with_unfolding_all rfl) ?_
        refine mc_lvs (lv' := [(0, .ref 542), (1, .int a), (2, .int i), (3, .int (lo + ((hi - lo) / (Int32.ofInt 2)))), (4, .int hi)]) (by simp) ?_
        exact ih (lo + ((hi - lo) / (Int32.ofInt 2))) hi M z hmid hz (by omega) hM2 b3 (by omega) q156 c2
set_option maxHeartbeats 4000000 in
set_option maxRecDepth 100000 in
theorem xr_could {l : Launch} {G : ax_T} {d : Nat} {h : ax_H} {n : Nat} (hd : 6 ≤ d) (H : mc_HW h n) {p : Nat} {sg : Nat → Nat} {b : Prop} {K : df_K} (S : RT h p sg b) {a : Int32} {kk : Nat} (ha : a.toInt = (kk : Int)) (hk6 : kk < 6) (hK : kz_K h kk K) (hG : df_G K) (hcc : sr_c h a) (ns : ¬ sr_s h) : mc_M l G d mt_X11_could [.ref 542, .int a] h n (fun r' h' n' => ∃ y : Int32, r' = some (.int y) ∧ RFQ h n p sg b K h' n' ∧ y.toInt = ab_ri h' 542 37) := by
  obtain ⟨d, rfl⟩ : ∃ e, d = e + 1 := ⟨d - 1, by omega⟩
  have hmi : mt_X11_could ∈ mt_prog := List.mem_of_getElem? mi_X11_could
  have hp20 : 0 ≤ ab_ri h 542 14 ∧ ab_ri h 542 14 ≤ 20 := mc_frng H (k := 542) (j := 14) (ci := 11) rfl rfl
  have hs1 := S.1
  have ns' := ns
  unfold sr_s at ns'
  refine mc_to hmi rfl ?_
  show mc_R _ _ _ _ _ (0, [(0, .ref 542), (1, .int a)], [], h, n, 0, 0)
  refine mc_cx hmi 2 (F' := (2, [(0, .ref 542), (1, .int a)], [.int a, .ref 542], h, n, 0, 0)) (by with_unfolding_all rfl) ?_
  refine mc_callP hmi (en := (2, .invokevirtual 138, 3, (3, 160, 11, 0), [1307, 78, 1305])) rfl (q := (mt_X11_isCustom, [.ref 542, .int a], [])) (mc_inv H (as := [.int a]) (rest := []) rfl (by with_unfolding_all rfl) rfl rfl rfl) ⟨rfl, rfl⟩ (pc' := 5) rfl (ak_c11 (by omega) H a) (fun y157 e158 => ?_)
  refine mc_cz hmi (c := .ne) (tg := 11) (pc' := 8) rfl rfl rfl rfl (fun (q159 : y157.toInt ≠ 0) => ?_) (fun (q159 : y157.toInt = 0) => ?_)
  · refine mc_cx hmi 1 (F' := (12, [(0, .ref 542), (1, .int a)], [.ref 542], h, n, 0, 0)) (by with_unfolding_all rfl) ?_
    refine mc_callP hmi (en := (12, .invokevirtual 275, 3, (3, 211, 11, 0), [1482, 97, 1480])) rfl (q := (mt_X11_isShut, [.ref 542], [])) (mc_inv H (as := []) (rest := []) rfl (by with_unfolding_all rfl) rfl rfl rfl) ⟨rfl, rfl⟩ (pc' := 15) rfl (xr_shut (by omega) H) (fun y160 e161 => ?_)
    refine mc_cz hmi (c := .eq) (tg := 21) (pc' := 18) rfl rfl rfl rfl (fun (q162 : y160.toInt = 0) => ?_) (fun (q162 : y160.toInt ≠ 0) => ?_)
    · refine mc_cx hmi 2 (F' := (23, [(0, .ref 542), (1, .int a)], [.ref 542, .ref 542], h, n, 0, 0)) (by with_unfolding_all rfl) ?_
      refine mc_geti hmi H (k := 542) (j := 24) (pc' := 26) rfl rfl rfl rfl (fun y163 (e164 : y163.toInt = ab_ri h 542 24) r165 r166 => ?_)
      rw [e164] at r165 r166
      refine mc_cx hmi 2 (F' := (28, [(0, .ref 542), (1, .int a)], [.int (y163 + (Int32.ofInt 1)), .ref 542], h, n, 0, 0)) (by with_unfolding_all rfl) ?_
      have e167 : (y163 + (Int32.ofInt 1)).toInt = ab_ri h 542 24 + 1 := mc_add e164 (by decide) (by omega) (by omega)
      refine mc_puti hmi H (k := 542) (j := 24) (pc' := 31) rfl rfl rfl rfl (by rw [e167]; omega) (by rw [e167]; omega) rfl (fun h168 H169 w170 => ?_)
      refine mc_cx hmi 2 (F' := (33, [(0, .ref 542), (1, .int a)], [.int a, .ref 542], h168, n, 0, 0)) (by with_unfolding_all rfl) ?_
      have r1 := mc_ri w170
      have f1 : ∀ (k' : Nat) (i' : Int), (k' = 542 → i' ≠ 24) → ab_rd h168 k' i' = ab_rd h k' i' := fun k' i' q => by rw [w170, if_neg (fun z => q z.1 z.2)]
      refine mc_call hmi (en := (33, .invokevirtual 279, 3, (3, 205, 11, 0), [1486, 98, 1484])) rfl (q := (mt_X11_fillAll, [.ref 542, .int a], [])) (mc_inv H169 (as := [.int a]) (rest := []) rfl (by with_unfolding_all rfl) rfl rfl rfl) ⟨rfl, rfl⟩ (pc' := 36) rfl (mc_mono (fx_M (by omega) H169 a ha hk6 (kz_K_fr (fun k' i' q => f1 k' i' (fun z => by omega)) hK) hG (RT_fr (by omega) (f1 542 14 (by decide)) (f1 542 15 (by decide)) (fun i _ => f1 554 (i : Int) (fun z => absurd z (by decide))) S) (by omega)) ?_)
      intro r2 h2 n2 P2
      obtain ⟨e2, e3, H2, f2, R2⟩ := P2
      rw [e2, e3]
      show mc_R _ _ _ _ _ (36, [(0, .ref 542), (1, .int a)], [], h2, n, 0, 0)
      have Z : RFQ h n p sg b K h2 n := by
        refine ⟨rfl, H2, R2, ?_, fun k' i' q1 q2 q3 q4 q5 => (f2 k' i' q1 q2 q3 q4 (fun e => (q5 e).1)).trans (f1 k' i' (fun e => (q5 e).2))⟩
        rw [ab_ri_of (f2 542 24 (by decide) (by decide) (by decide) (by decide) (by decide)), r1, if_pos ⟨rfl, rfl⟩]; exact e167
      refine mc_cx hmi 1 (F' := (37, [(0, .ref 542), (1, .int a)], [.ref 542], h2, n, 0, 0)) (by with_unfolding_all rfl) ?_
      refine mc_geti hmi H2 (k := 542) (j := 37) (pc' := 40) rfl rfl rfl rfl (fun y171 (e172 : y171.toInt = ab_ri h2 542 37) r173 r174 => ?_)
      rw [e172] at r173 r174
      exact mc_ret hmi rfl rfl rfl ⟨_, rfl, Z, e172⟩
    · exact absurd (e161.elim (fun q => q.2) (fun q => absurd q.1 q162)) ns
  · exact absurd hcc (e158.elim (fun q => by omega) (fun q => q.2))
set_option maxHeartbeats 4000000 in
set_option maxRecDepth 100000 in
theorem xr_says {l : Launch} {G : ax_T} {d : Nat} {h : ax_H} {n : Nat} (hd : 6 ≤ d) (H : mc_HW h n) {p : Nat} {sg : Nat → Nat} {b : Prop} {K : df_K} (S : RT h p sg b) {a : Int32} {kk : Nat} (ha : a.toInt = (kk : Int)) (hk6 : kk < 6) (hK : kz_K h kk K) (hG : df_G K) (hcc : sr_c h a) (ns : ¬ sr_s h) {i : Int32} : mc_M l G d mt_X11_says [.ref 542, .int a, .int i] h n (fun r' h' n' => ∃ y : Int32, r' = some (.int y) ∧ RFQ h n p sg b K h' n' ∧ (¬ (0 ≤ i.toInt ∧ i.toInt < ab_ri h' 542 37) ∧ y.toInt = -1 ∨ (0 ≤ i.toInt ∧ i.toInt < ab_ri h' 542 37) ∧ ∃ m : Nat, ab_ri h' 542 37 = (m : Int) ∧ (cn (lt_x y.toInt) (fun t : Nat => ab_ri h' 568 (t : Int)) m : Int) ≤ i.toInt ∧ i.toInt < (cn (lt_x (y.toInt + 1)) (fun t : Nat => ab_ri h' 568 (t : Int)) m : Int))) := by
  obtain ⟨d, rfl⟩ : ∃ e, d = e + 1 := ⟨d - 1, by omega⟩
  have hmi : mt_X11_says ∈ mt_prog := List.mem_of_getElem? mi_X11_says
  have hp20 : 0 ≤ ab_ri h 542 14 ∧ ab_ri h 542 14 ≤ 20 := mc_frng H (k := 542) (j := 14) (ci := 11) rfl rfl
  have hs1 := S.1
  have ns' := ns
  unfold sr_s at ns'
  refine mc_to hmi rfl ?_
  show mc_R _ _ _ _ _ (0, [(0, .ref 542), (1, .int a), (2, .int i)], [], h, n, 0, 0)
  refine mc_cx hmi 2 (F' := (2, [(0, .ref 542), (1, .int a), (2, .int i)], [.int a, .ref 542], h, n, 0, 0)) (by with_unfolding_all rfl) ?_
  refine mc_callP hmi (en := (2, .invokevirtual 138, 3, (3, 160, 11, 0), [1307, 78, 1305])) rfl (q := (mt_X11_isCustom, [.ref 542, .int a], [])) (mc_inv H (as := [.int a]) (rest := []) rfl (by with_unfolding_all rfl) rfl rfl rfl) ⟨rfl, rfl⟩ (pc' := 5) rfl (ak_c11 (by omega) H a) (fun y175 e176 => ?_)
  refine mc_cz hmi (c := .ne) (tg := 11) (pc' := 8) rfl rfl rfl rfl (fun (q177 : y175.toInt ≠ 0) => ?_) (fun (q177 : y175.toInt = 0) => ?_)
  · refine mc_cx hmi 1 (F' := (12, [(0, .ref 542), (1, .int a), (2, .int i)], [.ref 542], h, n, 0, 0)) (by with_unfolding_all rfl) ?_
    refine mc_callP hmi (en := (12, .invokevirtual 275, 3, (3, 211, 11, 0), [1482, 97, 1480])) rfl (q := (mt_X11_isShut, [.ref 542], [])) (mc_inv H (as := []) (rest := []) rfl (by with_unfolding_all rfl) rfl rfl rfl) ⟨rfl, rfl⟩ (pc' := 15) rfl (xr_shut (by omega) H) (fun y178 e179 => ?_)
    refine mc_cz hmi (c := .eq) (tg := 21) (pc' := 18) rfl rfl rfl rfl (fun (q180 : y178.toInt = 0) => ?_) (fun (q180 : y178.toInt ≠ 0) => ?_)
    · refine mc_cx hmi 2 (F' := (23, [(0, .ref 542), (1, .int a), (2, .int i)], [.ref 542, .ref 542], h, n, 0, 0)) (by with_unfolding_all rfl) ?_
      refine mc_geti hmi H (k := 542) (j := 24) (pc' := 26) rfl rfl rfl rfl (fun y181 (e182 : y181.toInt = ab_ri h 542 24) r183 r184 => ?_)
      rw [e182] at r183 r184
      refine mc_cx hmi 2 (F' := (28, [(0, .ref 542), (1, .int a), (2, .int i)], [.int (y181 + (Int32.ofInt 1)), .ref 542], h, n, 0, 0)) (by with_unfolding_all rfl) ?_
      have e185 : (y181 + (Int32.ofInt 1)).toInt = ab_ri h 542 24 + 1 := mc_add e182 (by decide) (by omega) (by omega)
      refine mc_puti hmi H (k := 542) (j := 24) (pc' := 31) rfl rfl rfl rfl (by rw [e185]; omega) (by rw [e185]; omega) rfl (fun h186 H187 w188 => ?_)
      refine mc_cx hmi 2 (F' := (33, [(0, .ref 542), (1, .int a), (2, .int i)], [.int a, .ref 542], h186, n, 0, 0)) (by with_unfolding_all rfl) ?_
      have r1 := mc_ri w188
      have f1 : ∀ (k' : Nat) (i' : Int), (k' = 542 → i' ≠ 24) → ab_rd h186 k' i' = ab_rd h k' i' := fun k' i' q => by rw [w188, if_neg (fun z => q z.1 z.2)]
      refine mc_call hmi (en := (33, .invokevirtual 279, 3, (3, 205, 11, 0), [1486, 98, 1484])) rfl (q := (mt_X11_fillAll, [.ref 542, .int a], [])) (mc_inv H187 (as := [.int a]) (rest := []) rfl (by with_unfolding_all rfl) rfl rfl rfl) ⟨rfl, rfl⟩ (pc' := 36) rfl (mc_mono (fx_M (by omega) H187 a ha hk6 (kz_K_fr (fun k' i' q => f1 k' i' (fun z => by omega)) hK) hG (RT_fr (by omega) (f1 542 14 (by decide)) (f1 542 15 (by decide)) (fun i _ => f1 554 (i : Int) (fun z => absurd z (by decide))) S) (by omega)) ?_)
      intro r2 h2 n2 P2
      obtain ⟨e2, e3, H2, f2, R2⟩ := P2
      rw [e2, e3]
      show mc_R _ _ _ _ _ (36, [(0, .ref 542), (1, .int a), (2, .int i)], [], h2, n, 0, 0)
      have Z : RFQ h n p sg b K h2 n := by
        refine ⟨rfl, H2, R2, ?_, fun k' i' q1 q2 q3 q4 q5 => (f2 k' i' q1 q2 q3 q4 (fun e => (q5 e).1)).trans (f1 k' i' (fun e => (q5 e).2))⟩
        rw [ab_ri_of (f2 542 24 (by decide) (by decide) (by decide) (by decide) (by decide)), r1, if_pos ⟨rfl, rfl⟩]; exact e185
      refine mc_cx hmi 3 (F' := (39, [(0, .ref 542), (1, .int a), (2, .int i)], [.ref 542, .int (Int32.ofInt 0), .int i], h2, n, 0, 0)) (by with_unfolding_all rfl) ?_
      refine mc_geti hmi H2 (k := 542) (j := 37) (pc' := 42) rfl rfl rfl rfl (fun y189 (e190 : y189.toInt = ab_ri h2 542 37) r191 r192 => ?_)
      rw [e190] at r191 r192
      refine mc_cx hmi 2 (F' := (44, [(0, .ref 542), (1, .int a), (2, .int i)], [.int (y189 - (Int32.ofInt 1)), .int (Int32.ofInt 0), .int i], h2, n, 0, 0)) (by with_unfolding_all rfl) ?_
      have e193 : (y189 - (Int32.ofInt 1)).toInt = ab_ri h2 542 37 - 1 := mc_sub e190 (by decide) (by omega) (by omega)
      refine mc_callP hmi (en := (44, .invokestatic 120, 3, (3, 152, 0, 0), [1291, 1290])) rfl (q := (mt_X11_in, [.int i, .int (Int32.ofInt 0), .int (y189 - (Int32.ofInt 1))], [])) (by with_unfolding_all rfl) ⟨rfl, rfl⟩ (pc' := 47) rfl (mc_inP (by omega) i (Int32.ofInt 0) (y189 - (Int32.ofInt 1)) h2 n) (fun y194 e195 => ?_)
      rw [show (Int32.ofInt 0).toInt = 0 from by decide, e193] at e195
      refine mc_cz hmi (c := .ne) (tg := 52) (pc' := 50) rfl rfl rfl rfl (fun (q196 : y194.toInt ≠ 0) => ?_) (fun (q196 : y194.toInt = 0) => ?_)
      · have hin := e195.elim (fun q => q.2) (fun q => absurd q.1 q196)
        refine mc_cx hmi 4 (F' := (61, [(4, .int (Int32.ofInt 1000000000)), (3, .int (Int32.ofInt (-1000000000))), (0, .ref 542), (1, .int a), (2, .int i)], [], h2, n, 0, 0)) (by with_unfolding_all rfl) ?_
        refine mc_lvs (lv' := [(0, .ref 542), (1, .int a), (2, .int i), (3, .int (Int32.ofInt (-1000000000))), (4, .int (Int32.ofInt 1000000000))]) (by simp) ?_
        obtain ⟨⟨m, D⟩, -⟩ := id R2
        have hm37 := D.1
        have hm4 : ab_ri h2 542 37 ≤ 40000 := (mc_frng H2 (k := 542) (j := 37) (ci := 11) rfl rfl).2
        rw [hm37] at hin hm4
        have bd := RS_bd (h := h2) (p := p) (by omega) D
        obtain ⟨oo, k1, k2, k3, k4, y, k5, k6⟩ := ss_out (l := l) (G := G) (d := d) H2 hm37 (by omega) (a := a) (i := i) rfl 2000000000 (Int32.ofInt (-1000000000)) (Int32.ofInt 1000000000) (-1000000000) 1000000000 (by decide) (by decide) (by omega) (by omega) (by omega) (by omega) (by rw [cn_none m (fun j hj => by unfold lt_x; rw [decide_eq_true_iff]; have := bd j hj; omega)]; exact hin.1) (by rw [cn_all m (fun j hj => by unfold lt_x; rw [decide_eq_true_iff]; have := bd j hj; omega)]; omega)
        have k3' : oo.2.1 = h2 := by first | exact k3 | exact k4
        have k4' : oo.2.2 = n := by first | exact k4 | exact k3
        refine ⟨oo, k1, k2, y, k5, ?_⟩
        rw [k3', k4']
        exact ⟨Z, Or.inr ⟨by rw [hm37]; omega, m, hm37, k6⟩⟩
      · refine mc_cx hmi 1 (F' := (51, [(0, .ref 542), (1, .int a), (2, .int i)], [.int (Int32.ofInt (-1))], h2, n, 0, 0)) (by with_unfolding_all rfl) ?_
        exact mc_ret hmi rfl rfl rfl ⟨_, rfl, Z, Or.inl ⟨fun z => e195.elim (fun q => absurd q.1 (by omega)) (fun q => q.2 ⟨z.1, by omega⟩), by decide⟩⟩
    · exact absurd (e179.elim (fun q => q.2) (fun q => absurd q.1 q180)) ns
  · exact absurd hcc (e176.elim (fun q => by omega) (fun q => q.2))
set_option maxHeartbeats 4000000 in
set_option maxRecDepth 100000 in
theorem xr_sure {l : Launch} {G : ax_T} {d : Nat} {h : ax_H} {n : Nat} (hd : 6 ≤ d) (H : mc_HW h n) {p : Nat} {sg : Nat → Nat} {b : Prop} {K : df_K} (S : RT h p sg b) {a : Int32} {kk : Nat} (ha : a.toInt = (kk : Int)) (hk6 : kk < 6) (hK : kz_K h kk K) (hG : df_G K) (hcc : sr_c h a) (ns : ¬ sr_s h) {i : Int32} (hin : (0 ≤ i.toInt ∧ i.toInt < 20)) : mc_M l G d mt_X11_sure [.ref 542, .int a, .int i] h n (fun r' h' n' => ∃ y : Int32, r' = some (.int y) ∧ RFQ h n p sg b K h' n' ∧ (i.toInt < (p : Int) ∧ (ab_ri h' 570 i.toInt = 14 ∧ y.toInt = -1 ∨ ab_ri h' 570 i.toInt ≠ 14 ∧ y.toInt = ab_ri h' 570 i.toInt) ∨ ¬ i.toInt < (p : Int) ∧ y.toInt = -1)) := by
  obtain ⟨d, rfl⟩ : ∃ e, d = e + 1 := ⟨d - 1, by omega⟩
  have hmi : mt_X11_sure ∈ mt_prog := List.mem_of_getElem? mi_X11_sure
  have hp20 : 0 ≤ ab_ri h 542 14 ∧ ab_ri h 542 14 ≤ 20 := mc_frng H (k := 542) (j := 14) (ci := 11) rfl rfl
  have hs1 := S.1
  have ns' := ns
  unfold sr_s at ns'
  refine mc_to hmi rfl ?_
  show mc_R _ _ _ _ _ (0, [(0, .ref 542), (1, .int a), (2, .int i)], [], h, n, 0, 0)
  refine mc_cx hmi 2 (F' := (2, [(0, .ref 542), (1, .int a), (2, .int i)], [.int a, .ref 542], h, n, 0, 0)) (by with_unfolding_all rfl) ?_
  refine mc_callP hmi (en := (2, .invokevirtual 138, 3, (3, 160, 11, 0), [1307, 78, 1305])) rfl (q := (mt_X11_isCustom, [.ref 542, .int a], [])) (mc_inv H (as := [.int a]) (rest := []) rfl (by with_unfolding_all rfl) rfl rfl rfl) ⟨rfl, rfl⟩ (pc' := 5) rfl (ak_c11 (by omega) H a) (fun y197 e198 => ?_)
  refine mc_cz hmi (c := .ne) (tg := 11) (pc' := 8) rfl rfl rfl rfl (fun (q199 : y197.toInt ≠ 0) => ?_) (fun (q199 : y197.toInt = 0) => ?_)
  · refine mc_cx hmi 3 (F' := (15, [(0, .ref 542), (1, .int a), (2, .int i)], [.int (Int8.ofInt 19).toInt32, .int (Int32.ofInt 0), .int i], h, n, 0, 0)) (by with_unfolding_all rfl) ?_
    refine mc_callP hmi (en := (15, .invokestatic 120, 3, (3, 152, 0, 0), [1291, 1290])) rfl (q := (mt_X11_in, [.int i, .int (Int32.ofInt 0), .int (Int8.ofInt 19).toInt32], [])) (by with_unfolding_all rfl) ⟨rfl, rfl⟩ (pc' := 18) rfl (mc_inP (by omega) i (Int32.ofInt 0) ((Int8.ofInt 19).toInt32) h n) (fun y200 e201 => ?_)
    rw [show (Int32.ofInt 0).toInt = 0 from by decide, show ((Int8.ofInt 19).toInt32).toInt = 19 from by decide] at e201
    refine mc_cz hmi (c := .ne) (tg := 24) (pc' := 21) rfl rfl rfl rfl (fun (q202 : y200.toInt ≠ 0) => ?_) (fun (q202 : y200.toInt = 0) => ?_)
    · refine mc_cx hmi 1 (F' := (25, [(0, .ref 542), (1, .int a), (2, .int i)], [.ref 542], h, n, 0, 0)) (by with_unfolding_all rfl) ?_
      refine mc_callP hmi (en := (25, .invokevirtual 275, 3, (3, 211, 11, 0), [1482, 97, 1480])) rfl (q := (mt_X11_isShut, [.ref 542], [])) (mc_inv H (as := []) (rest := []) rfl (by with_unfolding_all rfl) rfl rfl rfl) ⟨rfl, rfl⟩ (pc' := 28) rfl (xr_shut (by omega) H) (fun y203 e204 => ?_)
      refine mc_cz hmi (c := .eq) (tg := 34) (pc' := 31) rfl rfl rfl rfl (fun (q205 : y203.toInt = 0) => ?_) (fun (q205 : y203.toInt ≠ 0) => ?_)
      · refine mc_cx hmi 2 (F' := (36, [(0, .ref 542), (1, .int a), (2, .int i)], [.ref 542, .ref 542], h, n, 0, 0)) (by with_unfolding_all rfl) ?_
        refine mc_geti hmi H (k := 542) (j := 24) (pc' := 39) rfl rfl rfl rfl (fun y206 (e207 : y206.toInt = ab_ri h 542 24) r208 r209 => ?_)
        rw [e207] at r208 r209
        refine mc_cx hmi 2 (F' := (41, [(0, .ref 542), (1, .int a), (2, .int i)], [.int (y206 + (Int32.ofInt 1)), .ref 542], h, n, 0, 0)) (by with_unfolding_all rfl) ?_
        have e210 : (y206 + (Int32.ofInt 1)).toInt = ab_ri h 542 24 + 1 := mc_add e207 (by decide) (by omega) (by omega)
        refine mc_puti hmi H (k := 542) (j := 24) (pc' := 44) rfl rfl rfl rfl (by rw [e210]; omega) (by rw [e210]; omega) rfl (fun h211 H212 w213 => ?_)
        refine mc_cx hmi 2 (F' := (46, [(0, .ref 542), (1, .int a), (2, .int i)], [.int a, .ref 542], h211, n, 0, 0)) (by with_unfolding_all rfl) ?_
        have r1 := mc_ri w213
        have f1 : ∀ (k' : Nat) (i' : Int), (k' = 542 → i' ≠ 24) → ab_rd h211 k' i' = ab_rd h k' i' := fun k' i' q => by rw [w213, if_neg (fun z => q z.1 z.2)]
        refine mc_call hmi (en := (46, .invokevirtual 279, 3, (3, 205, 11, 0), [1486, 98, 1484])) rfl (q := (mt_X11_fillAll, [.ref 542, .int a], [])) (mc_inv H212 (as := [.int a]) (rest := []) rfl (by with_unfolding_all rfl) rfl rfl rfl) ⟨rfl, rfl⟩ (pc' := 49) rfl (mc_mono (fx_M (by omega) H212 a ha hk6 (kz_K_fr (fun k' i' q => f1 k' i' (fun z => by omega)) hK) hG (RT_fr (by omega) (f1 542 14 (by decide)) (f1 542 15 (by decide)) (fun i _ => f1 554 (i : Int) (fun z => absurd z (by decide))) S) (by omega)) ?_)
        intro r2 h2 n2 P2
        obtain ⟨e2, e3, H2, f2, R2⟩ := P2
        rw [e2, e3]
        show mc_R _ _ _ _ _ (49, [(0, .ref 542), (1, .int a), (2, .int i)], [], h2, n, 0, 0)
        have Z : RFQ h n p sg b K h2 n := by
          refine ⟨rfl, H2, R2, ?_, fun k' i' q1 q2 q3 q4 q5 => (f2 k' i' q1 q2 q3 q4 (fun e => (q5 e).1)).trans (f1 k' i' (fun e => (q5 e).2))⟩
          rw [ab_ri_of (f2 542 24 (by decide) (by decide) (by decide) (by decide) (by decide)), r1, if_pos ⟨rfl, rfl⟩]; exact e210
        refine mc_cx hmi 2 (F' := (51, [(0, .ref 542), (1, .int a), (2, .int i)], [.ref 542, .int i], h2, n, 0, 0)) (by with_unfolding_all rfl) ?_
        refine mc_geti hmi H2 (k := 542) (j := 14) (pc' := 54) rfl rfl rfl rfl (fun y214 (e215 : y214.toInt = ab_ri h2 542 14) r216 r217 => ?_)
        rw [e215] at r216 r217
        have hp2 : ab_ri h2 542 14 = (p : Int) := by rw [ab_ri_of (f2 542 14 (by decide) (by decide) (by decide) (by decide) (by decide)), ab_ri_of (f1 542 14 (by decide))]; exact hs1
        rw [hp2] at e215
        refine mc_ci hmi (c := .ge) (tg := 77) (pc' := 57) rfl rfl rfl rfl e215 (fun (q218 : (p : Int) ≤ i.toInt) => ?_) (fun (q218 : i.toInt < (p : Int)) => ?_)
        · refine mc_cx hmi 1 (F' := (78, [(0, .ref 542), (1, .int a), (2, .int i)], [.int (Int32.ofInt (-1))], h2, n, 0, 0)) (by with_unfolding_all rfl) ?_
          exact mc_ret hmi rfl rfl rfl ⟨_, rfl, Z, Or.inr ⟨by omega, by decide⟩⟩
        · refine mc_cx hmi 1 (F' := (58, [(0, .ref 542), (1, .int a), (2, .int i)], [.ref 542], h2, n, 0, 0)) (by with_unfolding_all rfl) ?_
          refine mc_getr hmi H2 (k := 542) (c := 570) (pc' := 61) rfl rfl rfl rfl rfl ?_
          refine mc_cx hmi 1 (F' := (62, [(0, .ref 542), (1, .int a), (2, .int i)], [.int i, .ref 570], h2, n, 0, 0)) (by with_unfolding_all rfl) ?_
          refine mc_iald hmi H2 (k := 570) (i := i.toInt) (pc' := 63) rfl rfl rfl rfl (by omega) (by omega) rfl (fun y219 e220 r221 r222 => ?_)
          rw [e220] at r221 r222
          refine mc_cx hmi 1 (F' := (65, [(0, .ref 542), (1, .int a), (2, .int i)], [.int (Int8.ofInt 14).toInt32, .int y219], h2, n, 0, 0)) (by with_unfolding_all rfl) ?_
          refine mc_ci hmi (c := .eq) (tg := 77) (pc' := 68) rfl rfl rfl e220 (by decide) (fun (q223 : ab_ri h2 570 (i.toInt) = 14) => ?_) (fun (q223 : ab_ri h2 570 (i.toInt) ≠ 14) => ?_)
          · refine mc_cx hmi 1 (F' := (78, [(0, .ref 542), (1, .int a), (2, .int i)], [.int (Int32.ofInt (-1))], h2, n, 0, 0)) (by with_unfolding_all rfl) ?_
            exact mc_ret hmi rfl rfl rfl ⟨_, rfl, Z, Or.inl ⟨by omega, Or.inl ⟨q223, by decide⟩⟩⟩
          · refine mc_cx hmi 1 (F' := (69, [(0, .ref 542), (1, .int a), (2, .int i)], [.ref 542], h2, n, 0, 0)) (by with_unfolding_all rfl) ?_
            refine mc_getr hmi H2 (k := 542) (c := 570) (pc' := 72) rfl rfl rfl rfl rfl ?_
            refine mc_cx hmi 1 (F' := (73, [(0, .ref 542), (1, .int a), (2, .int i)], [.int i, .ref 570], h2, n, 0, 0)) (by with_unfolding_all rfl) ?_
            refine mc_iald hmi H2 (k := 570) (i := i.toInt) (pc' := 74) rfl rfl rfl rfl (by omega) (by omega) rfl (fun y224 e225 r226 r227 => ?_)
            rw [e225] at r226 r227
            refine mc_cx hmi 1 (F' := (78, [(0, .ref 542), (1, .int a), (2, .int i)], [.int y224], h2, n, 0, 0)) (by with_unfolding_all rfl) ?_
            exact mc_ret hmi rfl rfl rfl ⟨_, rfl, Z, Or.inl ⟨by omega, Or.inr ⟨q223, e225⟩⟩⟩
      · exact absurd (e204.elim (fun q => q.2) (fun q => absurd q.1 q205)) ns
    · exact absurd q202 (e201.elim (fun q => by omega) (fun q => absurd (⟨hin.1, by omega⟩ : 0 ≤ i.toInt ∧ i.toInt ≤ 19) q.2))
  · exact absurd hcc (e198.elim (fun q => by omega) (fun q => q.2))
end
section
/-! ===== what a custom's cells hold, as the automaton wants it (by hand) ===== -/
theorem pg_w_up : ∀ a : Nat, a < 14 → ∀ b : Nat, b < 14 → pg_w (a : Int) < pg_w (b : Int) → a < b := by decide +kernel
theorem pg_aft {S x q : Int} (S0 : 0 ≤ S) (S1 : S ≤ 110) (hq : q = 5 ∨ q = 6) (e : pg_after S x % 8 = q) : 0 ≤ pg_s x ∧ pg_after S x / 8 = S / 8 ∧ pg_w (S / 8) < pg_w (pg_s x) := by
  have hr := pg_s_r x
  have hw := pg_w_le (i := S / 8) (by omega) (by omega)
  by_cases h1 : x = 44
  · have e1 : pg_after S x = 0 ∨ pg_after S x = -1 := by
      unfold pg_after
      rw [if_pos h1]
      split
      · exact Or.inl rfl
      · exact Or.inr rfl
    omega
  · by_cases h2 : x = 60
    · have e1 : pg_after S x = pg_mark (S % 8) (S / 8) := by
        unfold pg_after
        rw [if_neg h1, if_pos h2]
      have e2 : pg_mark (S % 8) (S / 8) = 3 + 8 * (S / 8) ∨ pg_mark (S % 8) (S / 8) = 4 + 8 * (S / 8) ∨ pg_mark (S % 8) (S / 8) = -1 := by
        unfold pg_mark pg_at
        split
        · exact Or.inl rfl
        · split
          · exact Or.inr (Or.inl rfl)
          · exact Or.inr (Or.inr rfl)
      omega
    · by_cases h3 : 49 ≤ x ∧ x ≤ 57
      · have e1 : pg_after S x = 2 + 8 * (S / 8) ∨ pg_after S x = -1 := by
          unfold pg_after pg_at
          rw [if_neg h1, if_neg h2, if_pos h3]
          split
          · exact Or.inl rfl
          · exact Or.inr rfl
        omega
      · by_cases h4 : pg_s x < 0
        · have e1 : pg_after S x = -1 := by
            unfold pg_after
            rw [if_neg h1, if_neg h2, if_neg h3, if_pos h4]
          omega
        · have e1 : pg_after S x = pg_sign (S % 8) (S / 8) (pg_s x) := by
            unfold pg_after
            rw [if_neg h1, if_neg h2, if_neg h3, if_neg h4]
          have e2 : pg_sign (S % 8) (S / 8) (pg_s x) = 1 + 8 * pg_s x ∨ pg_sign (S % 8) (S / 8) (pg_s x) = -1 ∨ pg_sign (S % 8) (S / 8) (pg_s x) = 5 + 8 * (S / 8) ∧ 1 * pg_w (S / 8) < pg_w (pg_s x) ∨ pg_sign (S % 8) (S / 8) (pg_s x) = 6 + 8 * (S / 8) ∧ 2 * pg_w (S / 8) < pg_w (pg_s x) := by
            unfold pg_sign pg_at
            split
            · exact Or.inl rfl
            · split
              · split
                · rename_i u; exact Or.inr (Or.inr (Or.inl ⟨rfl, u⟩))
                · exact Or.inr (Or.inl rfl)
              · split
                · split
                  · rename_i u; exact Or.inr (Or.inr (Or.inr ⟨rfl, u⟩))
                  · exact Or.inr (Or.inl rfl)
                · exact Or.inr (Or.inl rfl)
          rw [← e1] at e2
          refine ⟨by omega, ?_, ?_⟩
          · omega
          · omega
theorem bt_one : ∀ m : Nat, m < 14 → ∀ i : Nat, i < 32 → bt (Int32.ofInt 1 <<< (Int32.ofInt (m : Int) &&& 31)) i = true → i = m := by decide +kernel
theorem bt_32 {y : Int32} {i : Nat} (h : bt y i = true) : i < 32 := by
  by_cases q : i < 32
  · exact q
  · unfold bt at h
    rw [BitVec.getLsbD_of_ge _ _ (by omega)] at h
    cases h
theorem bt_0 : ∀ i : Nat, i < 32 → bt (Int32.ofInt 0) i = false := by decide +kernel
/-- bits gathered are of greater signs -/
theorem pg_kb_bt {q : Int} (hq : q = 5 ∨ q = 6) {f : Int → Int} : ∀ (j s : Nat), s < 14 → ∀ i : Nat, bt (pg_kb q f j s) i = true → s < i ∧ i < 14
  | 0, s, _, i, h => by
    have h32 := bt_32 h
    have h0 : bt (Int32.ofInt 0) i = true := h
    rw [bt_0 i h32] at h0
    cases h0
  | j + 1, s, hs, i, h => by
    have ih := pg_kb_bt hq (f := f) j s hs i
    have h' : bt (if pg_run f (j + 1) % 8 = q ∧ pg_run f (j + 1) / 8 = (s : Int) then pg_kb q f j s ||| ((Int32.ofInt 1) <<< ((Int32.ofInt (pg_s (f (j : Int)))) &&& 31)) else pg_kb q f j s) i = true := h
    by_cases c : pg_run f (j + 1) % 8 = q ∧ pg_run f (j + 1) / 8 = (s : Int)
    · rw [if_pos c, bt_or, Bool.or_eq_true] at h'
      rcases h' with h' | h'
      · exact ih h'
      · have hr := pg_run_r f j
        have e1 : pg_run f (j + 1) = if pg_run f j = -1 then -1 else pg_after (pg_run f j) (f (j : Int)) := rfl
        by_cases d : pg_run f j = -1
        · rw [if_pos d] at e1
          omega
        · rw [if_neg d] at e1
          obtain ⟨r0, r1, r2⟩ : 0 ≤ pg_run f j ∧ pg_run f j ≤ 110 ∧ pg_run f j % 8 ≤ 6 := hr.elim (fun z => absurd z d) id
          rw [e1] at c
          obtain ⟨a1, a2, a3⟩ := pg_aft r0 r1 hq c.1
          have a4 := pg_s_r (f (j : Int))
          obtain ⟨m, hm⟩ : ∃ m : Nat, (m : Int) = pg_s (f (j : Int)) := ⟨(pg_s (f (j : Int))).toNat, by omega⟩
          rw [← hm] at h' a3 a4
          have em := bt_one m (by omega) i (bt_32 h') h'
          rw [← a2, c.2] at a3
          have := pg_w_up s hs m (by omega) a3
          omega
    · rw [if_neg c] at h'
      exact ih h'
/-- what custom k of the class holds -/
def Kof (h : ax_H) (k : Nat) : df_K := (fun v => if v < 14 then (ab_ri h (123 + 4 * k) (v : Int)).toNat else 0, fun v i => decide (v < 14) && bt (Int32.ofInt (ab_ri h (124 + 4 * k) (v : Int))) i, fun v i => decide (v < 14) && bt (Int32.ofInt (ab_ri h (125 + 4 * k) (v : Int))) i)
theorem Kof_fr {h h' : ax_H} {k : Nat} (e : ∀ t : Nat, t < 14 → ab_ri h' (123 + 4 * k) (t : Int) = ab_ri h (123 + 4 * k) (t : Int) ∧ ab_ri h' (124 + 4 * k) (t : Int) = ab_ri h (124 + 4 * k) (t : Int) ∧ ab_ri h' (125 + 4 * k) (t : Int) = ab_ri h (125 + 4 * k) (t : Int)) : Kof h' k = Kof h k := by
  unfold Kof
  refine Prod.ext (funext fun v => ?_) (Prod.ext (funext fun v => funext fun i => ?_) (funext fun v => funext fun i => ?_))
  · show (if v < 14 then (ab_ri h' (123 + 4 * k) (v : Int)).toNat else 0) = (if v < 14 then (ab_ri h (123 + 4 * k) (v : Int)).toNat else 0)
    by_cases q : v < 14
    · rw [if_pos q, if_pos q, (e v q).1]
    · rw [if_neg q, if_neg q]
  · show (decide (v < 14) && bt (Int32.ofInt (ab_ri h' (124 + 4 * k) (v : Int))) i) = (decide (v < 14) && bt (Int32.ofInt (ab_ri h (124 + 4 * k) (v : Int))) i)
    by_cases q : v < 14
    · rw [(e v q).2.1]
    · rw [decide_eq_false q, Bool.false_and, Bool.false_and]
  · show (decide (v < 14) && bt (Int32.ofInt (ab_ri h' (125 + 4 * k) (v : Int))) i) = (decide (v < 14) && bt (Int32.ofInt (ab_ri h (125 + 4 * k) (v : Int))) i)
    by_cases q : v < 14
    · rw [(e v q).2.2]
    · rw [decide_eq_false q, Bool.false_and, Bool.false_and]
/-- the bits of custom k are of greater signs -/
def lx_kb (h : ax_H) (k : Nat) : Prop := ∀ t : Nat, t < 14 → (∀ i : Nat, bt (Int32.ofInt (ab_ri h (124 + 4 * k) (t : Int))) i = true → t < i ∧ i < 14) ∧ ∀ i : Nat, bt (Int32.ofInt (ab_ri h (125 + 4 * k) (t : Int))) i = true → t < i ∧ i < 14
theorem Kof_G {h : ax_H} {k : Nat} (b : lx_kb h k) : df_G (Kof h k) := by
  refine ⟨fun x y e => ?_, fun x y e => ?_⟩
  · have e' : (decide (x < 14) && bt (Int32.ofInt (ab_ri h (124 + 4 * k) (x : Int))) y) = true := e
    rw [Bool.and_eq_true, decide_eq_true_iff] at e'
    exact (b x e'.1).1 y e'.2
  · have e' : (decide (x < 14) && bt (Int32.ofInt (ab_ri h (125 + 4 * k) (x : Int))) y) = true := e
    rw [Bool.and_eq_true, decide_eq_true_iff] at e'
    exact (b x e'.1).2 y e'.2
theorem Kof_1 {h : ax_H} {k v : Nat} (hv : v < 14) : (Kof h k).1 v = (ab_ri h (123 + 4 * k) (v : Int)).toNat := if_pos hv
theorem Kof_2 {h : ax_H} {k v : Nat} (hv : v < 14) (i : Nat) : (Kof h k).2.1 v i = bt (Int32.ofInt (ab_ri h (124 + 4 * k) (v : Int))) i := by
  show (decide (v < 14) && _) = _
  rw [decide_eq_true hv, Bool.true_and]
theorem Kof_3 {h : ax_H} {k v : Nat} (hv : v < 14) (i : Nat) : (Kof h k).2.2 v i = bt (Int32.ofInt (ab_ri h (125 + 4 * k) (v : Int))) i := by
  show (decide (v < 14) && _) = _
  rw [decide_eq_true hv, Bool.true_and]
theorem dw_kk : ∀ k, k < 6 → ∃ τs, ab_K[ab_k (122 + 4 * k)]? = some (.inr (1, τs))
  | 0, _ => ⟨_, rfl⟩
  | 1, _ => ⟨_, rfl⟩
  | 2, _ => ⟨_, rfl⟩
  | 3, _ => ⟨_, rfl⟩
  | 4, _ => ⟨_, rfl⟩
  | 5, _ => ⟨_, rfl⟩
  | k + 6, hk => absurd hk (by omega)
/-- class and reference hold the same custom -/
def lx_sk (h : ax_H) (k : Nat) : Prop := ∀ t : Nat, t < 14 → ab_ri h 546 (14 * (k : Int) + (t : Int)) = ab_ri h (123 + 4 * k) (t : Int) ∧ ab_ri h 547 (14 * (k : Int) + (t : Int)) = ab_ri h (124 + 4 * k) (t : Int) ∧ ab_ri h 548 (14 * (k : Int) + (t : Int)) = ab_ri h (125 + 4 * k) (t : Int)
theorem Kof_9 {h : ax_H} {n k : Nat} (H : mc_HW h n) (hk : k < 6) (s : lx_sk h k) {v : Nat} (hv : v < 14) : 0 ≤ ab_ri h (123 + 4 * k) (v : Int) ∧ ab_ri h (123 + 4 * k) (v : Int) ≤ 9 := by
  rw [← (s v hv).1]
  exact mc_rng H (k := 546) (i := 14 * (k : Int) + (v : Int)) rfl rfl (by omega) (by omega)
theorem Kof_dw {h : ax_H} {n k : Nat} (H : mc_HW h n) (hk : k < 6) (c : pg_ck h k) (s : lx_sk h k) : dw_K h (122 + 4 * k) (123 + 4 * k) (124 + 4 * k) (125 + 4 * k) (Kof h k) := by
  refine ⟨c.2, dw_kk k hk, fun v hv => ?_⟩
  have h9 := Kof_9 H hk s hv
  refine ⟨?_, ?_, fun i => (Kof_2 hv i).symm, fun i => (Kof_3 hv i).symm⟩
  · rw [Kof_1 hv]; omega
  · rw [Kof_1 hv]; omega
theorem Kof_kz {h : ax_H} {n k : Nat} (H : mc_HW h n) (hk : k < 6) (s : lx_sk h k) : kz_K h k (Kof h k) := fun v hv => by
  have h9 := Kof_9 H hk s hv
  obtain ⟨s1, s2, s3⟩ := s v hv
  refine ⟨?_, ?_, fun i => ?_, fun i => ?_⟩
  · rw [Kof_1 hv, s1]; omega
  · rw [Kof_1 hv]; omega
  · rw [Kof_2 hv, s2]
  · rw [Kof_3 hv, s3]
end
