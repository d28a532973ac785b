/-! ===== by hand: seek, in the reference (ways printed by wip/hand/h_seek3.py) ===== -/
set_option maxRecDepth 100000 in
theorem chain_sum {U f : Nat → Int} (h0 : U 13 = 0) (hc : ∀ i : Nat, i + 1 ≤ 13 → U i = U (i + 1) + f (i + 1)) : sm f 14 = U 0 + f 0 := by
  have key : ∀ i : Nat, i ≤ 13 → U i + sm f (i + 1) = U 0 + f 0 := by
    intro i
    induction i with
    | zero => intro _; show U 0 + (0 + f 0) = _; omega
    | succ i ih =>
      intro hi
      have h1 := ih (by omega)
      have h2 := hc i (by omega)
      have h3 : sm f (i + 1 + 1) = sm f (i + 1) + f (i + 1) := rfl
      omega
  have h1 : U 13 + sm f 14 = U 0 + f 0 := key 13 (Nat.le_refl _)
  omega
def FRS (h h' : ax_H) : Prop := ∀ (k : Nat) (i : Int), k ≠ 549 → k ≠ 550 → k ≠ 560 → k ≠ 561 → k ≠ 562 → k ≠ 563 → k ≠ 564 → (k = 542 → i ≠ 35) → (k = 542 → i ≠ 36) → ab_rd h' k i = ab_rd h k i
set_option maxRecDepth 100000 in
theorem FRS_trans {h h1 h2 : ax_H} (a : FRS h h1) (b : FRS h1 h2) : FRS h h2 := fun k i p1 p2 p3 p4 p5 p6 p7 p8 p9 => (b k i p1 p2 p3 p4 p5 p6 p7 p8 p9).trans (a k i p1 p2 p3 p4 p5 p6 p7 p8 p9)
-- where seek stands
def SK (h h' : ax_H) (n j : Nat) : Prop := mc_HW h' n ∧ FRS h h' ∧ ab_ri h' 564 13 = 0 ∧ ∀ i : Nat, j ≤ i → i + 1 ≤ 13 → ab_ri h' 564 (i : Int) = ab_ri h' 564 ((i + 1 : Nat) : Int) + fS h' (i + 1) ∧ 0 ≤ ab_ri h' 560 ((i + 1 : Nat) : Int)
-- the levels above are as they were
def AB (h' h2 : ax_H) (j : Nat) : Prop := ∀ i : Nat, j < i → ab_ri h2 560 (i : Int) = ab_ri h' 560 (i : Int) ∧ ab_ri h2 561 (i : Int) = ab_ri h' 561 (i : Int)
set_option maxRecDepth 100000 in
theorem AB_lvl {h' h2 : ax_H} {j i : Nat} (e : AB h' h2 j) (hi : j < i) : lvl h2 i = lvl h' i := by
  unfold lvl
  rw [(e i hi).1, (e i hi).2]
set_option maxRecDepth 100000 in
theorem lvl_nn {h : ax_H} {n j : Nat} (H : mc_HW h n) (hj : j ≤ 13) : -1 ≤ ab_ri h 560 (j : Int) ∧ (ab_ri h 560 (j : Int) + 1) * 29 ≤ lvl h j ∧ lvl h j ≤ (ab_ri h 560 (j : Int) + 1) * 29 + 28 := by
  have h1 := mc_rng H (k := 560) (i := (j : Int)) rfl rfl (by omega) (by omega)
  have h2 := mc_rng H (k := 561) (i := (j : Int)) rfl rfl (by omega) (by omega)
  unfold lvl rk
  refine ⟨h1.1, ?_, ?_⟩ <;> split <;> (try split) <;> omega
-- one level alone has changed
set_option maxRecDepth 100000 in
theorem SK_lev {h h1 h2 : ax_H} {n j j' : Nat} (S : SK h h1 n j') (hj : j' ≤ j) (H2 : mc_HW h2 n) (f : NWf h1 h2 j) : SK h h2 n j ∧ AB h1 h2 j := by
  obtain ⟨s1, s2, s3, s4⟩ := S
  have g : ∀ (c : Nat) (i : Int), i ≠ (j : Int) → ab_ri h2 c i = ab_ri h1 c i := fun c i hi => ab_ri_of (f c i (fun _ => hi) (fun _ => hi))
  have gU : ∀ i : Int, ab_ri h2 564 i = ab_ri h1 564 i := fun i => ab_ri_of (f 564 i (fun q => absurd q (by decide)) (fun q => absurd q (by decide)))
  refine ⟨⟨H2, fun k i p1 p2 p3 p4 p5 p6 p7 p8 p9 => (f k i (fun q => absurd q p3) (fun q => absurd q p4)).trans (s2 k i p1 p2 p3 p4 p5 p6 p7 p8 p9), by rw [gU]; exact s3, fun i h1 h2 => ?_⟩, fun i hi => ⟨g 560 _ (by omega), g 561 _ (by omega)⟩⟩
  have := s4 i (by omega) h2
  unfold fS at this ⊢
  rw [gU, gU, g 560 _ (by omega), g 561 _ (by omega)]
  exact this
set_option maxRecDepth 100000 in
theorem sk_lev {l : Launch} {G : ax_T} {d : Nat} {Q : Option Value → ax_H → Nat → Prop} {h : ax_H} {n : Nat} (hd : 4 ≤ d) (k w : Int32) (hk0 : 0 ≤ k.toInt) (hk1 : k.toInt ≤ 5) (kx : (∀ h' : ax_H, mc_HW h' n → FRS h h' → mc_R l G mt_X11_seek d Q (254, [(0, .ref 542)], [], h', n, 0, 0))) : ∀ (j : Nat), j ≤ 13 → ∀ (c : Nat) (h' : ax_H) (a : Int32), SK h h' n j → a.toInt = (j : Int) → (lvl h' j).toNat ≤ c → (∀ (h2 : ax_H) (a : Int32), SK h h2 n j → a.toInt = (j : Int) → AB h' h2 j → ab_ri h2 560 (j : Int) < 0 → mc_R l G mt_X11_seek d Q (60, [(0, .ref 542), (1, .int k), (3, .int w), (4, .int a)], [], h2, n, 0, 0)) → mc_R l G mt_X11_seek d Q (60, [(0, .ref 542), (1, .int k), (3, .int w), (4, .int a)], [], h', n, 0, 0) := by
  have hmi : mt_X11_seek ∈ mt_prog := List.mem_of_getElem? mi_X11_seek
  intro j
  induction j with
  | zero =>
    intro hj c
    induction c with
    | zero =>
      intro h' a S ha hc kk
      have hl := lvl_nn S.1 hj
      exact kk h' a S ha (fun _ _ => ⟨rfl, rfl⟩) (by omega)
    | succ c ih =>
      intro h' a S ha hc kk
      have hl := lvl_nn S.1 hj
      by_cases hP : ab_ri h' 560 ((0 : Nat) : Int) < 0
      · exact kk h' a S ha (fun _ _ => ⟨rfl, rfl⟩) hP
      obtain ⟨s1, s2, s3, s4⟩ := id S
      refine mc_cx hmi 2 (F' := (64, [(0, .ref 542), (1, .int k), (3, .int w), (4, .int a)], [.int (Int8.ofInt 14).toInt32, .int a], h', n, 0, 0)) (by with_unfolding_all rfl) ?_
      refine mc_ci hmi (c := .ge) (tg := 254) (pc' := 67) rfl rfl rfl ha (by decide) (fun (q1 : 14 ≤ ((0 : Nat) : Int)) => ?_) (fun (q1 : ((0 : Nat) : Int) < 14) => ?_)
      · exact absurd q1 (by omega)
      · refine mc_cx hmi 1 (F' := (68, [(0, .ref 542), (1, .int k), (3, .int w), (4, .int a)], [.ref 542], h', n, 0, 0)) (by with_unfolding_all rfl) ?_
        refine mc_geti hmi s1 (k := 542) (j := 35) (pc' := 71) rfl rfl rfl rfl (fun y2 (e3 : y2.toInt = ab_ri h' 542 35) r4 r5 => ?_)
        rw [e3] at r4 r5
        refine mc_cx hmi 1 (F' := (74, [(0, .ref 542), (1, .int k), (3, .int w), (4, .int a)], [.int (Int16.ofInt 5000).toInt32, .int y2], h', n, 0, 0)) (by with_unfolding_all rfl) ?_
        refine mc_ci hmi (c := .ge) (tg := 254) (pc' := 77) rfl rfl rfl e3 (by decide) (fun (q6 : 5000 ≤ ab_ri h' 542 35) => ?_) (fun (q6 : ab_ri h' 542 35 < 5000) => ?_)
        · refine mc_lvs (lv' := [(0, .ref 542)]) (by simp) ?_
          exact kx h' s1 s2
        · refine mc_cx hmi 1 (F' := (78, [(0, .ref 542), (1, .int k), (3, .int w), (4, .int a)], [.ref 542], h', n, 0, 0)) (by with_unfolding_all rfl) ?_
          refine mc_getr hmi s1 (k := 542) (c := 560) (pc' := 81) rfl rfl rfl rfl rfl ?_
          refine mc_cx hmi 1 (F' := (83, [(0, .ref 542), (1, .int k), (3, .int w), (4, .int a)], [.int a, .ref 560], h', n, 0, 0)) (by with_unfolding_all rfl) ?_
          refine mc_iald hmi s1 (k := 560) (i := ((0 : Nat) : Int)) (pc' := 84) rfl rfl rfl ha (by omega) (by omega) rfl (fun y7 e8 r9 r10 => ?_)
          rw [e8] at r9 r10
          refine mc_cz hmi (c := .ge) (tg := 118) (pc' := 87) rfl rfl rfl e8 (fun (q11 : 0 ≤ ab_ri h' 560 (((0 : Nat) : Int))) => ?_) (fun (q11 : ab_ri h' 560 (((0 : Nat) : Int)) < 0) => ?_)
          · have k233 : ∀ h2 : ax_H, mc_HW h2 n → SK h h2 n 0 → AB h' h2 0 → lvl h2 0 = lvl h' 0 → mc_R l G mt_X11_seek d Q (233, [(0, .ref 542), (1, .int k), (3, .int w), (4, .int a)], [], h2, n, 0, 0) := by
              intro h2 H2 S2 A2 l2
              refine mc_cx hmi 3 (F' := (237, [(0, .ref 542), (1, .int k), (3, .int w), (4, .int a)], [.int a, .int k, .ref 542], h2, n, 0, 0)) (by with_unfolding_all rfl) ?_
              refine mc_call hmi (en := (237, .invokevirtual 188, 3, (3, 179, 11, 0), [1374, 86, 1372])) rfl (q := (mt_X11_nextWay, [.ref 542, .int k, .int a], [])) (mc_inv H2 (as := [.int k, .int a]) (rest := []) rfl (by with_unfolding_all rfl) rfl rfl rfl) ⟨rfl, rfl⟩ (pc' := 240) rfl (mc_mono (mc_nextWay (by omega) H2 k a hk0 hk1 hj ha) ?_)
              intro r6 h6 n6 P6
              obtain ⟨e6, H6, f6, y6, rfl, hy6⟩ := P6
              rw [e6]
              show mc_R _ _ _ _ _ (240, [(0, .ref 542), (1, .int k), (3, .int w), (4, .int a)], [.int y6], h6, n, 0, 0)
              obtain ⟨S6, A6⟩ := SK_lev S2 (by omega) H6 f6
              have l0 := l2
              have ab0 := A2
              refine mc_cz hmi (c := .ne) (tg := 251) (pc' := 243) rfl rfl rfl rfl (fun (q12 : y6.toInt ≠ 0) => ?_) (fun (q12 : y6.toInt = 0) => ?_)
              · refine mc_cx hmi 1 (F' := (60, [(0, .ref 542), (1, .int k), (3, .int w), (4, .int a)], [], h6, n, 0, 0)) (by with_unfolding_all rfl) ?_
                refine mc_lvs (lv' := [(0, .ref 542), (1, .int k), (3, .int w), (4, .int a)]) (by simp) ?_
                have l6 : lvl h6 0 < lvl h2 0 := hy6.elim (fun q => absurd q q12) (fun q => q.2.2)
                refine ih h6 a S6 ha (by omega) (fun h7 a7 S7 ha7 A7 p7 => kk h7 a7 S7 ha7 (fun i hi => ?_) p7)
                exact ⟨((A7 i hi).1.trans (A6 i hi).1).trans (ab0 i hi).1, ((A7 i hi).2.trans (A6 i hi).2).trans (ab0 i hi).2⟩
              · refine mc_cx hmi 1 (F' := (244, [(0, .ref 542), (1, .int k), (3, .int w), (4, .int a)], [.ref 542], h6, n, 0, 0)) (by with_unfolding_all rfl) ?_
                refine mc_getr hmi H6 (k := 542) (c := 560) (pc' := 247) rfl rfl rfl rfl rfl ?_
                refine mc_cx hmi 2 (F' := (250, [(0, .ref 542), (1, .int k), (3, .int w), (4, .int a)], [.int (Int32.ofInt (-1)), .int a, .ref 560], h6, n, 0, 0)) (by with_unfolding_all rfl) ?_
                refine mc_iast hmi H6 (k := 560) (i := ((0 : Nat) : Int)) (pc' := 251) rfl rfl rfl ha (by omega) (by omega) (by rw [show ((Int32.ofInt (-1))).toInt = (-1) from by decide]; omega) (by rw [show ((Int32.ofInt (-1))).toInt = (-1) from by decide]; omega) rfl (fun h13 H14 w15 => ?_)
                refine mc_cx hmi 1 (F' := (60, [(0, .ref 542), (1, .int k), (3, .int w), (4, .int a)], [], h13, n, 0, 0)) (by with_unfolding_all rfl) ?_
                refine mc_lvs (lv' := [(0, .ref 542), (1, .int k), (3, .int w), (4, .int a)]) (by simp) ?_
                have f8 : NWf h6 h13 0 := fun k' i' p1 p2 => by rw [w15, if_neg (fun q => p1 q.1 q.2)]
                obtain ⟨S8, A8⟩ := SK_lev S6 (Nat.le_refl _) H14 f8
                exact kk h13 a S8 ha (fun i hi => ⟨((A8 i hi).1.trans (A6 i hi).1).trans (ab0 i hi).1, ((A8 i hi).2.trans (A6 i hi).2).trans (ab0 i hi).2⟩) (by rw [mc_ri w15, if_pos ⟨rfl, rfl⟩]; decide)
            refine mc_cx hmi 1 (F' := (119, [(0, .ref 542), (1, .int k), (3, .int w), (4, .int a)], [.ref 542], h', n, 0, 0)) (by with_unfolding_all rfl) ?_
            refine mc_getr hmi s1 (k := 542) (c := 563) (pc' := 122) rfl rfl rfl rfl rfl ?_
            refine mc_cx hmi 1 (F' := (124, [(0, .ref 542), (1, .int k), (3, .int w), (4, .int a)], [.int a, .ref 563], h', n, 0, 0)) (by with_unfolding_all rfl) ?_
            refine mc_iald hmi s1 (k := 563) (i := ((0 : Nat) : Int)) (pc' := 125) rfl rfl rfl ha (by omega) (by omega) rfl (fun y16 e17 r18 r19 => ?_)
            rw [e17] at r18 r19
            refine mc_cx hmi 2 (F' := (128, [(0, .ref 542), (1, .int k), (3, .int w), (4, .int a)], [.int a, .ref 542, .int y16], h', n, 0, 0)) (by with_unfolding_all rfl) ?_
            refine mc_callP hmi (en := (128, .invokevirtual 191, 3, (3, 177, 11, 0), [1382, 88, 1380])) rfl (q := (mt_X11_worthBy, [.ref 542, .int a], [.int y16])) (mc_inv s1 (as := [.int a]) (rest := [.int y16]) rfl (by with_unfolding_all rfl) rfl rfl rfl) ⟨rfl, rfl⟩ (pc' := 131) rfl (mc_worthBy (by omega) s1 a hj ha) (fun y20 e21 => ?_)
            refine mc_cx hmi 3 (F' := (135, [(5, .int (y16 - y20)), (0, .ref 542), (1, .int k), (3, .int w), (4, .int a)], [.ref 542], h', n, 0, 0)) (by with_unfolding_all rfl) ?_
            refine mc_getr hmi s1 (k := 542) (c := 564) (pc' := 138) rfl rfl rfl rfl rfl ?_
            refine mc_cx hmi 1 (F' := (140, [(5, .int (y16 - y20)), (0, .ref 542), (1, .int k), (3, .int w), (4, .int a)], [.int a, .ref 564], h', n, 0, 0)) (by with_unfolding_all rfl) ?_
            refine mc_iald hmi s1 (k := 564) (i := ((0 : Nat) : Int)) (pc' := 141) rfl rfl rfl ha (by omega) (by omega) rfl (fun y22 e23 r24 r25 => ?_)
            rw [e23] at r24 r25
            refine mc_cx hmi 1 (F' := (142, [(5, .int (y16 - y20)), (0, .ref 542), (1, .int k), (3, .int w), (4, .int a)], [.ref 542, .int y22], h', n, 0, 0)) (by with_unfolding_all rfl) ?_
            refine mc_getr hmi s1 (k := 542) (c := 560) (pc' := 145) rfl rfl rfl rfl rfl ?_
            refine mc_cx hmi 1 (F' := (147, [(5, .int (y16 - y20)), (0, .ref 542), (1, .int k), (3, .int w), (4, .int a)], [.int a, .ref 560, .int y22], h', n, 0, 0)) (by with_unfolding_all rfl) ?_
            refine mc_iald hmi s1 (k := 560) (i := ((0 : Nat) : Int)) (pc' := 148) rfl rfl rfl ha (by omega) (by omega) rfl (fun y26 e27 r28 r29 => ?_)
            rw [e27] at r28 r29
            refine mc_cx hmi 2 (F' := (150, [(5, .int (y16 - y20)), (0, .ref 542), (1, .int k), (3, .int w), (4, .int a)], [.ref 542, .int (y22 + y26)], h', n, 0, 0)) (by with_unfolding_all rfl) ?_
            have e30 : (y22 + y26).toInt = ab_ri h' 564 (((0 : Nat) : Int)) + ab_ri h' 560 (((0 : Nat) : Int)) := mc_add e23 e27 (by omega) (by omega)
            refine mc_getr hmi s1 (k := 542) (c := 561) (pc' := 153) rfl rfl rfl rfl rfl ?_
            refine mc_cx hmi 1 (F' := (155, [(5, .int (y16 - y20)), (0, .ref 542), (1, .int k), (3, .int w), (4, .int a)], [.int a, .ref 561, .int (y22 + y26)], h', n, 0, 0)) (by with_unfolding_all rfl) ?_
            refine mc_iald hmi s1 (k := 561) (i := ((0 : Nat) : Int)) (pc' := 156) rfl rfl rfl ha (by omega) (by omega) rfl (fun y31 e32 r33 r34 => ?_)
            rw [e32] at r33 r34
            refine mc_callP hmi (en := (156, .invokestatic 194, 3, (3, 176, 0, 0), [1385, 1384])) rfl (q := (mt_X11_signsOf, [.int y31], [.int (y22 + y26)])) (by with_unfolding_all rfl) ⟨rfl, rfl⟩ (pc' := 159) rfl (mc_signsOf (by omega) y31) (fun y35 e36 => ?_)
            rw [e32] at e36
            have hsg := sg_b (ab_ri h' 561 (((0 : Nat) : Int)))
            refine mc_cx hmi 4 (F' := (166, [(6, .int ((y22 + y26) + y35)), (5, .int (y16 - y20)), (0, .ref 542), (1, .int k), (3, .int w), (4, .int a)], [.int (Int8.ofInt 24).toInt32, .int ((y22 + y26) + y35)], h', n, 0, 0)) (by with_unfolding_all rfl) ?_
            have e37 : ((y22 + y26) + y35).toInt = (ab_ri h' 564 (((0 : Nat) : Int)) + ab_ri h' 560 (((0 : Nat) : Int))) + sg (ab_ri h' 561 (((0 : Nat) : Int))) := mc_add e30 e36 (by omega) (by omega)
            have hus : ((y22 + y26) + y35).toInt = ab_ri h' 564 ((0 : Nat) : Int) + fS h' 0 := by rw [e37]; unfold fS; omega
            have hu0 : 0 ≤ ((y22 + y26) + y35).toInt := by rw [e37]; omega
            have k190 : ∀ g : Int32, (g.toInt ≠ 0 → ((y22 + y26) + y35).toInt ≤ 24) → mc_R l G mt_X11_seek d Q (190, [(6, .int ((y22 + y26) + y35)), (5, .int (y16 - y20)), (0, .ref 542), (1, .int k), (3, .int w), (4, .int a)], [.int g], h', n, 0, 0) := by
              intro g hg
              refine mc_cx hmi 2 (F' := (194, [(7, .int g), (6, .int ((y22 + y26) + y35)), (5, .int (y16 - y20)), (0, .ref 542), (1, .int k), (3, .int w), (4, .int a)], [.int g], h', n, 0, 0)) (by with_unfolding_all rfl) ?_
              refine mc_cz hmi (c := .eq) (tg := 212) (pc' := 197) rfl rfl rfl rfl (fun (q38 : g.toInt = 0) => ?_) (fun (q38 : g.toInt ≠ 0) => ?_)
              · refine mc_cx hmi 1 (F' := (214, [(7, .int g), (6, .int ((y22 + y26) + y35)), (5, .int (y16 - y20)), (0, .ref 542), (1, .int k), (3, .int w), (4, .int a)], [.int g], h', n, 0, 0)) (by with_unfolding_all rfl) ?_
                refine mc_cz hmi (c := .eq) (tg := 233) (pc' := 217) rfl rfl rfl rfl (fun (q39 : g.toInt = 0) => ?_) (fun (q39 : g.toInt ≠ 0) => ?_)
                · refine mc_lvs (lv' := [(0, .ref 542), (1, .int k), (3, .int w), (4, .int a)]) (by simp) ?_
                  exact k233 h' s1 S (fun _ _ => ⟨rfl, rfl⟩) rfl
                · exact absurd q38 q39
              · refine mc_cx hmi 1 (F' := (199, [(7, .int g), (6, .int ((y22 + y26) + y35)), (5, .int (y16 - y20)), (0, .ref 542), (1, .int k), (3, .int w), (4, .int a)], [.int a], h', n, 0, 0)) (by with_unfolding_all rfl) ?_
                refine mc_cz hmi (c := .ne) (tg := 212) (pc' := 202) rfl rfl rfl ha (fun (q40 : ((0 : Nat) : Int) ≠ 0) => ?_) (fun (q40 : ((0 : Nat) : Int) = 0) => ?_)
                · exact absurd (show ((0 : Nat) : Int) = 0 from rfl) q40
                · refine mc_cx hmi 3 (F' := (206, [(7, .int g), (6, .int ((y22 + y26) + y35)), (5, .int (y16 - y20)), (0, .ref 542), (1, .int k), (3, .int w), (4, .int a)], [.int ((y22 + y26) + y35), .int w, .ref 542], h', n, 0, 0)) (by with_unfolding_all rfl) ?_
                  have hcs := chain_sum (U := fun i => ab_ri h' 564 (i : Int)) (f := fS h') s3 (fun i hi => (s4 i (Nat.zero_le _) hi).1)
                  have hcs' : sm (fS h') 14 = ab_ri h' 564 ((0 : Nat) : Int) + fS h' 0 := hcs
                  have hgg := hg q38
                  have hPa : ∀ i : Nat, i < 14 → 0 ≤ ab_ri h' 560 (i : Int) := by
                    intro i hi
                    by_cases e : i = 0
                    · rw [e]; omega
                    · have := (s4 (i - 1) (Nat.zero_le _) (by omega)).2; rw [show i - 1 + 1 = i by omega] at this; exact this
                  refine mc_call hmi (en := (206, .invokevirtual 200, 3, (3, 183, 11, 0), [1393, 90, 1391])) rfl (q := (mt_X11_noteOne, [.ref 542, .int w, .int ((y22 + y26) + y35)], [])) (mc_inv s1 (as := [.int w, .int ((y22 + y26) + y35)]) (rest := []) rfl (by with_unfolding_all rfl) rfl rfl rfl) ⟨rfl, rfl⟩ (pc' := 209) rfl (mc_mono (mc_noteOne (by omega) s1 w ((y22 + y26) + y35) hgg hPa (by omega) (by omega)) ?_)
                  intro r2 h2 n2 P2
                  obtain ⟨e1, e2, H2, f2⟩ := P2
                  rw [e1, e2]
                  show mc_R _ _ _ _ _ (209, [(7, .int g), (6, .int ((y22 + y26) + y35)), (5, .int (y16 - y20)), (0, .ref 542), (1, .int k), (3, .int w), (4, .int a)], [], h2, n, 0, 0)
                  refine mc_cx hmi 3 (F' := (214, [(7, .int (Int32.ofInt 0)), (6, .int ((y22 + y26) + y35)), (5, .int (y16 - y20)), (0, .ref 542), (1, .int k), (3, .int w), (4, .int a)], [.int (Int32.ofInt 0)], h2, n, 0, 0)) (by with_unfolding_all rfl) ?_
                  refine mc_cz hmi (c := .eq) (tg := 233) (pc' := 217) rfl rfl rfl (by decide) (fun (q41 : 0 = 0) => ?_) (fun (q41 : 0 ≠ 0) => ?_)
                  · have g0 : ∀ i : Int, ab_ri h2 560 i = ab_ri h' 560 i := fun i => ab_ri_of (f2 560 i (by decide) (by decide) (fun q => absurd q (by decide)) (fun q => absurd q (by decide)))
                    have g1 : ∀ i : Int, ab_ri h2 561 i = ab_ri h' 561 i := fun i => ab_ri_of (f2 561 i (by decide) (by decide) (fun q => absurd q (by decide)) (fun q => absurd q (by decide)))
                    have g4 : ∀ i : Int, ab_ri h2 564 i = ab_ri h' 564 i := fun i => ab_ri_of (f2 564 i (by decide) (by decide) (fun q => absurd q (by decide)) (fun q => absurd q (by decide)))
                    refine mc_lvs (lv' := [(0, .ref 542), (1, .int k), (3, .int w), (4, .int a)]) (by simp) ?_
                    refine k233 h2 H2 ⟨H2, fun k' i' p1 p2 p3 p4 p5 p6 p7 p8 p9 => (f2 k' i' p1 p2 p8 p9).trans (s2 k' i' p1 p2 p3 p4 p5 p6 p7 p8 p9), by rw [g4]; exact s3, fun i h1 h2 => ?_⟩ (fun i _ => ⟨g0 _, g1 _⟩) (by unfold lvl; rw [g0, g1])
                    have := s4 i h1 h2
                    unfold fS at this ⊢
                    rw [g4, g4, g0, g1]
                    exact this
                  · exact absurd (by decide) q41
            refine mc_ci hmi (c := .gt) (tg := 189) (pc' := 169) rfl rfl rfl e37 (by decide) (fun (q42 : 24 < ((ab_ri h' 564 (((0 : Nat) : Int)) + ab_ri h' 560 (((0 : Nat) : Int))) + sg (ab_ri h' 561 (((0 : Nat) : Int))))) => ?_) (fun (q42 : ((ab_ri h' 564 (((0 : Nat) : Int)) + ab_ri h' 560 (((0 : Nat) : Int))) + sg (ab_ri h' 561 (((0 : Nat) : Int)))) ≤ 24) => ?_)
            · refine mc_cx hmi 1 (F' := (190, [(6, .int ((y22 + y26) + y35)), (5, .int (y16 - y20)), (0, .ref 542), (1, .int k), (3, .int w), (4, .int a)], [.int (Int32.ofInt 0)], h', n, 0, 0)) (by with_unfolding_all rfl) ?_
              exact k190 _ (fun q => absurd (by decide) q)
            · have hle : ((y22 + y26) + y35).toInt ≤ 24 := by rw [e37]; exact q42
              refine mc_cx hmi 6 (F' := (179, [(6, .int ((y22 + y26) + y35)), (5, .int (y16 - y20)), (0, .ref 542), (1, .int k), (3, .int w), (4, .int a)], [.int ((Int8.ofInt 24).toInt32 - ((y22 + y26) + y35)), .int (y16 - y20), .int a, .ref 542], h', n, 0, 0)) (by with_unfolding_all rfl) ?_
              have e43 : ((Int8.ofInt 24).toInt32 - ((y22 + y26) + y35)).toInt = 24 - ((ab_ri h' 564 (((0 : Nat) : Int)) + ab_ri h' 560 (((0 : Nat) : Int))) + sg (ab_ri h' 561 (((0 : Nat) : Int)))) := mc_sub (by decide) e37 (by omega) (by omega)
              refine mc_callP hmi (en := (179, .invokevirtual 197, 3, (3, 175, 11, 0), [1389, 89, 1387])) rfl (q := (mt_X11_mayCome, [.ref 542, .int a, .int (y16 - y20), .int ((Int8.ofInt 24).toInt32 - ((y22 + y26) + y35))], [])) (mc_inv s1 (as := [.int a, .int (y16 - y20), .int ((Int8.ofInt 24).toInt32 - ((y22 + y26) + y35))]) (rest := []) rfl (by with_unfolding_all rfl) rfl rfl rfl) ⟨rfl, rfl⟩ (pc' := 182) rfl (mc_mayCome (by omega) s1 a (y16 - y20) ((Int8.ofInt 24).toInt32 - ((y22 + y26) + y35)) hj ha) (fun y44 e45 => ?_)
              refine mc_cz hmi (c := .eq) (tg := 189) (pc' := 185) rfl rfl rfl rfl (fun (q46 : y44.toInt = 0) => ?_) (fun (q46 : y44.toInt ≠ 0) => ?_)
              · refine mc_cx hmi 1 (F' := (190, [(6, .int ((y22 + y26) + y35)), (5, .int (y16 - y20)), (0, .ref 542), (1, .int k), (3, .int w), (4, .int a)], [.int (Int32.ofInt 0)], h', n, 0, 0)) (by with_unfolding_all rfl) ?_
                exact k190 _ (fun q => absurd (by decide) q)
              · refine mc_cx hmi 2 (F' := (190, [(6, .int ((y22 + y26) + y35)), (5, .int (y16 - y20)), (0, .ref 542), (1, .int k), (3, .int w), (4, .int a)], [.int (Int32.ofInt 1)], h', n, 0, 0)) (by with_unfolding_all rfl) ?_
                exact k190 _ (fun _ => hle)
          · exact absurd q11 hP
  | succ j ihj =>
    intro hj c
    induction c with
    | zero =>
      intro h' a S ha hc kk
      have hl := lvl_nn S.1 hj
      exact kk h' a S ha (fun _ _ => ⟨rfl, rfl⟩) (by omega)
    | succ c ih =>
      intro h' a S ha hc kk
      have hl := lvl_nn S.1 hj
      by_cases hP : ab_ri h' 560 ((j + 1 : Nat) : Int) < 0
      · exact kk h' a S ha (fun _ _ => ⟨rfl, rfl⟩) hP
      obtain ⟨s1, s2, s3, s4⟩ := id S
      refine mc_cx hmi 2 (F' := (64, [(0, .ref 542), (1, .int k), (3, .int w), (4, .int a)], [.int (Int8.ofInt 14).toInt32, .int a], h', n, 0, 0)) (by with_unfolding_all rfl) ?_
      refine mc_ci hmi (c := .ge) (tg := 254) (pc' := 67) rfl rfl rfl ha (by decide) (fun (q47 : 14 ≤ ((j + 1 : Nat) : Int)) => ?_) (fun (q47 : ((j + 1 : Nat) : Int) < 14) => ?_)
      · exact absurd q47 (by omega)
      · refine mc_cx hmi 1 (F' := (68, [(0, .ref 542), (1, .int k), (3, .int w), (4, .int a)], [.ref 542], h', n, 0, 0)) (by with_unfolding_all rfl) ?_
        refine mc_geti hmi s1 (k := 542) (j := 35) (pc' := 71) rfl rfl rfl rfl (fun y48 (e49 : y48.toInt = ab_ri h' 542 35) r50 r51 => ?_)
        rw [e49] at r50 r51
        refine mc_cx hmi 1 (F' := (74, [(0, .ref 542), (1, .int k), (3, .int w), (4, .int a)], [.int (Int16.ofInt 5000).toInt32, .int y48], h', n, 0, 0)) (by with_unfolding_all rfl) ?_
        refine mc_ci hmi (c := .ge) (tg := 254) (pc' := 77) rfl rfl rfl e49 (by decide) (fun (q52 : 5000 ≤ ab_ri h' 542 35) => ?_) (fun (q52 : ab_ri h' 542 35 < 5000) => ?_)
        · refine mc_lvs (lv' := [(0, .ref 542)]) (by simp) ?_
          exact kx h' s1 s2
        · refine mc_cx hmi 1 (F' := (78, [(0, .ref 542), (1, .int k), (3, .int w), (4, .int a)], [.ref 542], h', n, 0, 0)) (by with_unfolding_all rfl) ?_
          refine mc_getr hmi s1 (k := 542) (c := 560) (pc' := 81) rfl rfl rfl rfl rfl ?_
          refine mc_cx hmi 1 (F' := (83, [(0, .ref 542), (1, .int k), (3, .int w), (4, .int a)], [.int a, .ref 560], h', n, 0, 0)) (by with_unfolding_all rfl) ?_
          refine mc_iald hmi s1 (k := 560) (i := ((j + 1 : Nat) : Int)) (pc' := 84) rfl rfl rfl ha (by omega) (by omega) rfl (fun y53 e54 r55 r56 => ?_)
          rw [e54] at r55 r56
          refine mc_cz hmi (c := .ge) (tg := 118) (pc' := 87) rfl rfl rfl e54 (fun (q57 : 0 ≤ ab_ri h' 560 (((j + 1 : Nat) : Int))) => ?_) (fun (q57 : ab_ri h' 560 (((j + 1 : Nat) : Int)) < 0) => ?_)
          · have k233 : ∀ h2 : ax_H, mc_HW h2 n → SK h h2 n (j + 1) → AB h' h2 (j + 1) → lvl h2 (j + 1) = lvl h' (j + 1) → mc_R l G mt_X11_seek d Q (233, [(0, .ref 542), (1, .int k), (3, .int w), (4, .int a)], [], h2, n, 0, 0) := by
              intro h2 H2 S2 A2 l2
              refine mc_cx hmi 3 (F' := (237, [(0, .ref 542), (1, .int k), (3, .int w), (4, .int a)], [.int a, .int k, .ref 542], h2, n, 0, 0)) (by with_unfolding_all rfl) ?_
              refine mc_call hmi (en := (237, .invokevirtual 188, 3, (3, 179, 11, 0), [1374, 86, 1372])) rfl (q := (mt_X11_nextWay, [.ref 542, .int k, .int a], [])) (mc_inv H2 (as := [.int k, .int a]) (rest := []) rfl (by with_unfolding_all rfl) rfl rfl rfl) ⟨rfl, rfl⟩ (pc' := 240) rfl (mc_mono (mc_nextWay (by omega) H2 k a hk0 hk1 hj ha) ?_)
              intro r6 h6 n6 P6
              obtain ⟨e6, H6, f6, y6, rfl, hy6⟩ := P6
              rw [e6]
              show mc_R _ _ _ _ _ (240, [(0, .ref 542), (1, .int k), (3, .int w), (4, .int a)], [.int y6], h6, n, 0, 0)
              obtain ⟨S6, A6⟩ := SK_lev S2 (by omega) H6 f6
              have l0 := l2
              have ab0 := A2
              refine mc_cz hmi (c := .ne) (tg := 251) (pc' := 243) rfl rfl rfl rfl (fun (q58 : y6.toInt ≠ 0) => ?_) (fun (q58 : y6.toInt = 0) => ?_)
              · refine mc_cx hmi 1 (F' := (60, [(0, .ref 542), (1, .int k), (3, .int w), (4, .int a)], [], h6, n, 0, 0)) (by with_unfolding_all rfl) ?_
                refine mc_lvs (lv' := [(0, .ref 542), (1, .int k), (3, .int w), (4, .int a)]) (by simp) ?_
                have l6 : lvl h6 (j + 1) < lvl h2 (j + 1) := hy6.elim (fun q => absurd q q58) (fun q => q.2.2)
                refine ih h6 a S6 ha (by omega) (fun h7 a7 S7 ha7 A7 p7 => kk h7 a7 S7 ha7 (fun i hi => ?_) p7)
                exact ⟨((A7 i hi).1.trans (A6 i hi).1).trans (ab0 i hi).1, ((A7 i hi).2.trans (A6 i hi).2).trans (ab0 i hi).2⟩
              · refine mc_cx hmi 1 (F' := (244, [(0, .ref 542), (1, .int k), (3, .int w), (4, .int a)], [.ref 542], h6, n, 0, 0)) (by with_unfolding_all rfl) ?_
                refine mc_getr hmi H6 (k := 542) (c := 560) (pc' := 247) rfl rfl rfl rfl rfl ?_
                refine mc_cx hmi 2 (F' := (250, [(0, .ref 542), (1, .int k), (3, .int w), (4, .int a)], [.int (Int32.ofInt (-1)), .int a, .ref 560], h6, n, 0, 0)) (by with_unfolding_all rfl) ?_
                refine mc_iast hmi H6 (k := 560) (i := ((j + 1 : Nat) : Int)) (pc' := 251) rfl rfl rfl ha (by omega) (by omega) (by rw [show ((Int32.ofInt (-1))).toInt = (-1) from by decide]; omega) (by rw [show ((Int32.ofInt (-1))).toInt = (-1) from by decide]; omega) rfl (fun h59 H60 w61 => ?_)
                refine mc_cx hmi 1 (F' := (60, [(0, .ref 542), (1, .int k), (3, .int w), (4, .int a)], [], h59, n, 0, 0)) (by with_unfolding_all rfl) ?_
                refine mc_lvs (lv' := [(0, .ref 542), (1, .int k), (3, .int w), (4, .int a)]) (by simp) ?_
                have f8 : NWf h6 h59 (j + 1) := fun k' i' p1 p2 => by rw [w61, if_neg (fun q => p1 q.1 q.2)]
                obtain ⟨S8, A8⟩ := SK_lev S6 (Nat.le_refl _) H60 f8
                exact kk h59 a S8 ha (fun i hi => ⟨((A8 i hi).1.trans (A6 i hi).1).trans (ab0 i hi).1, ((A8 i hi).2.trans (A6 i hi).2).trans (ab0 i hi).2⟩) (by rw [mc_ri w61, if_pos ⟨rfl, rfl⟩]; decide)
            refine mc_cx hmi 1 (F' := (119, [(0, .ref 542), (1, .int k), (3, .int w), (4, .int a)], [.ref 542], h', n, 0, 0)) (by with_unfolding_all rfl) ?_
            refine mc_getr hmi s1 (k := 542) (c := 563) (pc' := 122) rfl rfl rfl rfl rfl ?_
            refine mc_cx hmi 1 (F' := (124, [(0, .ref 542), (1, .int k), (3, .int w), (4, .int a)], [.int a, .ref 563], h', n, 0, 0)) (by with_unfolding_all rfl) ?_
            refine mc_iald hmi s1 (k := 563) (i := ((j + 1 : Nat) : Int)) (pc' := 125) rfl rfl rfl ha (by omega) (by omega) rfl (fun y62 e63 r64 r65 => ?_)
            rw [e63] at r64 r65
            refine mc_cx hmi 2 (F' := (128, [(0, .ref 542), (1, .int k), (3, .int w), (4, .int a)], [.int a, .ref 542, .int y62], h', n, 0, 0)) (by with_unfolding_all rfl) ?_
            refine mc_callP hmi (en := (128, .invokevirtual 191, 3, (3, 177, 11, 0), [1382, 88, 1380])) rfl (q := (mt_X11_worthBy, [.ref 542, .int a], [.int y62])) (mc_inv s1 (as := [.int a]) (rest := [.int y62]) rfl (by with_unfolding_all rfl) rfl rfl rfl) ⟨rfl, rfl⟩ (pc' := 131) rfl (mc_worthBy (by omega) s1 a hj ha) (fun y66 e67 => ?_)
            refine mc_cx hmi 3 (F' := (135, [(5, .int (y62 - y66)), (0, .ref 542), (1, .int k), (3, .int w), (4, .int a)], [.ref 542], h', n, 0, 0)) (by with_unfolding_all rfl) ?_
            refine mc_getr hmi s1 (k := 542) (c := 564) (pc' := 138) rfl rfl rfl rfl rfl ?_
            refine mc_cx hmi 1 (F' := (140, [(5, .int (y62 - y66)), (0, .ref 542), (1, .int k), (3, .int w), (4, .int a)], [.int a, .ref 564], h', n, 0, 0)) (by with_unfolding_all rfl) ?_
            refine mc_iald hmi s1 (k := 564) (i := ((j + 1 : Nat) : Int)) (pc' := 141) rfl rfl rfl ha (by omega) (by omega) rfl (fun y68 e69 r70 r71 => ?_)
            rw [e69] at r70 r71
            refine mc_cx hmi 1 (F' := (142, [(5, .int (y62 - y66)), (0, .ref 542), (1, .int k), (3, .int w), (4, .int a)], [.ref 542, .int y68], h', n, 0, 0)) (by with_unfolding_all rfl) ?_
            refine mc_getr hmi s1 (k := 542) (c := 560) (pc' := 145) rfl rfl rfl rfl rfl ?_
            refine mc_cx hmi 1 (F' := (147, [(5, .int (y62 - y66)), (0, .ref 542), (1, .int k), (3, .int w), (4, .int a)], [.int a, .ref 560, .int y68], h', n, 0, 0)) (by with_unfolding_all rfl) ?_
            refine mc_iald hmi s1 (k := 560) (i := ((j + 1 : Nat) : Int)) (pc' := 148) rfl rfl rfl ha (by omega) (by omega) rfl (fun y72 e73 r74 r75 => ?_)
            rw [e73] at r74 r75
            refine mc_cx hmi 2 (F' := (150, [(5, .int (y62 - y66)), (0, .ref 542), (1, .int k), (3, .int w), (4, .int a)], [.ref 542, .int (y68 + y72)], h', n, 0, 0)) (by with_unfolding_all rfl) ?_
            have e76 : (y68 + y72).toInt = ab_ri h' 564 (((j + 1 : Nat) : Int)) + ab_ri h' 560 (((j + 1 : Nat) : Int)) := mc_add e69 e73 (by omega) (by omega)
            refine mc_getr hmi s1 (k := 542) (c := 561) (pc' := 153) rfl rfl rfl rfl rfl ?_
            refine mc_cx hmi 1 (F' := (155, [(5, .int (y62 - y66)), (0, .ref 542), (1, .int k), (3, .int w), (4, .int a)], [.int a, .ref 561, .int (y68 + y72)], h', n, 0, 0)) (by with_unfolding_all rfl) ?_
            refine mc_iald hmi s1 (k := 561) (i := ((j + 1 : Nat) : Int)) (pc' := 156) rfl rfl rfl ha (by omega) (by omega) rfl (fun y77 e78 r79 r80 => ?_)
            rw [e78] at r79 r80
            refine mc_callP hmi (en := (156, .invokestatic 194, 3, (3, 176, 0, 0), [1385, 1384])) rfl (q := (mt_X11_signsOf, [.int y77], [.int (y68 + y72)])) (by with_unfolding_all rfl) ⟨rfl, rfl⟩ (pc' := 159) rfl (mc_signsOf (by omega) y77) (fun y81 e82 => ?_)
            rw [e78] at e82
            have hsg := sg_b (ab_ri h' 561 (((j + 1 : Nat) : Int)))
            refine mc_cx hmi 4 (F' := (166, [(6, .int ((y68 + y72) + y81)), (5, .int (y62 - y66)), (0, .ref 542), (1, .int k), (3, .int w), (4, .int a)], [.int (Int8.ofInt 24).toInt32, .int ((y68 + y72) + y81)], h', n, 0, 0)) (by with_unfolding_all rfl) ?_
            have e83 : ((y68 + y72) + y81).toInt = (ab_ri h' 564 (((j + 1 : Nat) : Int)) + ab_ri h' 560 (((j + 1 : Nat) : Int))) + sg (ab_ri h' 561 (((j + 1 : Nat) : Int))) := mc_add e76 e82 (by omega) (by omega)
            have hus : ((y68 + y72) + y81).toInt = ab_ri h' 564 ((j + 1 : Nat) : Int) + fS h' (j + 1) := by rw [e83]; unfold fS; omega
            have hu0 : 0 ≤ ((y68 + y72) + y81).toInt := by rw [e83]; omega
            have k190 : ∀ g : Int32, (g.toInt ≠ 0 → ((y68 + y72) + y81).toInt ≤ 24) → mc_R l G mt_X11_seek d Q (190, [(6, .int ((y68 + y72) + y81)), (5, .int (y62 - y66)), (0, .ref 542), (1, .int k), (3, .int w), (4, .int a)], [.int g], h', n, 0, 0) := by
              intro g hg
              refine mc_cx hmi 2 (F' := (194, [(7, .int g), (6, .int ((y68 + y72) + y81)), (5, .int (y62 - y66)), (0, .ref 542), (1, .int k), (3, .int w), (4, .int a)], [.int g], h', n, 0, 0)) (by with_unfolding_all rfl) ?_
              refine mc_cz hmi (c := .eq) (tg := 212) (pc' := 197) rfl rfl rfl rfl (fun (q84 : g.toInt = 0) => ?_) (fun (q84 : g.toInt ≠ 0) => ?_)
              · refine mc_cx hmi 1 (F' := (214, [(7, .int g), (6, .int ((y68 + y72) + y81)), (5, .int (y62 - y66)), (0, .ref 542), (1, .int k), (3, .int w), (4, .int a)], [.int g], h', n, 0, 0)) (by with_unfolding_all rfl) ?_
                refine mc_cz hmi (c := .eq) (tg := 233) (pc' := 217) rfl rfl rfl rfl (fun (q85 : g.toInt = 0) => ?_) (fun (q85 : g.toInt ≠ 0) => ?_)
                · refine mc_lvs (lv' := [(0, .ref 542), (1, .int k), (3, .int w), (4, .int a)]) (by simp) ?_
                  exact k233 h' s1 S (fun _ _ => ⟨rfl, rfl⟩) rfl
                · exact absurd q84 q85
              · refine mc_cx hmi 1 (F' := (199, [(7, .int g), (6, .int ((y68 + y72) + y81)), (5, .int (y62 - y66)), (0, .ref 542), (1, .int k), (3, .int w), (4, .int a)], [.int a], h', n, 0, 0)) (by with_unfolding_all rfl) ?_
                refine mc_cz hmi (c := .ne) (tg := 212) (pc' := 202) rfl rfl rfl ha (fun (q86 : ((j + 1 : Nat) : Int) ≠ 0) => ?_) (fun (q86 : ((j + 1 : Nat) : Int) = 0) => ?_)
                · have hgg := hg q84
                  refine mc_cx hmi 1 (F' := (214, [(7, .int g), (6, .int ((y68 + y72) + y81)), (5, .int (y62 - y66)), (0, .ref 542), (1, .int k), (3, .int w), (4, .int a)], [.int g], h', n, 0, 0)) (by with_unfolding_all rfl) ?_
                  refine mc_cz hmi (c := .eq) (tg := 233) (pc' := 217) rfl rfl rfl rfl (fun (q87 : g.toInt = 0) => ?_) (fun (q87 : g.toInt ≠ 0) => ?_)
                  · exact absurd q87 q84
                  · refine mc_cx hmi 5 (F' := (225, [(7, .int g), (6, .int ((y68 + y72) + y81)), (5, .int (y62 - y66)), (0, .ref 542), (1, .int k), (3, .int w), (4, .int a)], [.int ((y68 + y72) + y81), .int (y62 - y66), .int a, .int k, .ref 542], h', n, 0, 0)) (by with_unfolding_all rfl) ?_
                    refine mc_call hmi (en := (225, .invokevirtual 203, 3, (3, 181, 11, 0), [1401, 92, 1399])) rfl (q := (mt_X11_down, [.ref 542, .int k, .int a, .int (y62 - y66), .int ((y68 + y72) + y81)], [])) (mc_inv s1 (as := [.int k, .int a, .int (y62 - y66), .int ((y68 + y72) + y81)]) (rest := []) rfl (by with_unfolding_all rfl) rfl rfl rfl) ⟨rfl, rfl⟩ (pc' := 228) rfl (mc_mono (mc_down (by omega) s1 k a (y62 - y66) ((y68 + y72) + y81) hk0 hk1 hj ha hu0 hgg) ?_)
                    intro r2 h2 n2 P2
                    obtain ⟨e1, H2, f2, p2, u2, y2, rfl, hy2⟩ := P2
                    rw [e1]
                    show mc_R _ _ _ _ _ (228, [(7, .int g), (6, .int ((y68 + y72) + y81)), (5, .int (y62 - y66)), (0, .ref 542), (1, .int k), (3, .int w), (4, .int a)], [.int y2], h2, n, 0, 0)
                    refine mc_cx hmi 3 (F' := (60, [(4, .int y2), (7, .int g), (6, .int ((y68 + y72) + y81)), (5, .int (y62 - y66)), (0, .ref 542), (1, .int k), (3, .int w)], [], h2, n, 0, 0)) (by with_unfolding_all rfl) ?_
                    refine mc_lvs (lv' := [(0, .ref 542), (1, .int k), (3, .int w), (4, .int y2)]) (by simp) ?_
                    have g : ∀ (c : Nat) (i : Int), i ≠ (j : Int) → ab_ri h2 c i = ab_ri h' c i := fun c i hi => ab_ri_of (f2 c i (fun _ => hi) (fun _ => hi) (fun _ => hi) (fun _ => hi) (fun _ => hi))
                    have S2 : SK h h2 n j := by
                      refine ⟨H2, fun k' i' p1 p2 p3 p4 p5 p6 p7 p8 p9 => (f2 k' i' (fun q => absurd q p3) (fun q => absurd q p4) (fun q => absurd q p5) (fun q => absurd q p6) (fun q => absurd q p7)).trans (s2 k' i' p1 p2 p3 p4 p5 p6 p7 p8 p9), by rw [g 564 _ (by omega)]; exact s3, fun i h1 h2 => ?_⟩
                      by_cases e : i = j
                      · subst e
                        rw [u2, hus]
                        unfold fS
                        rw [g 564 _ (by omega), g 560 _ (by omega), g 561 _ (by omega)]
                        exact ⟨rfl, by omega⟩
                      · have := s4 i (by omega) h2
                        unfold fS at this ⊢
                        rw [g 564 _ (by omega), g 564 _ (by omega), g 560 _ (by omega), g 561 _ (by omega)]
                        exact this
                    refine ihj (by omega) _ h2 y2 S2 hy2 (Nat.le_refl _) (fun h3 a3 S3 ha3 A3 p3 => ?_)
                    have A3' : AB h' h3 (j + 1) := fun i hi => ⟨(A3 i (by omega)).1.trans (g 560 _ (by omega)), (A3 i (by omega)).2.trans (g 561 _ (by omega))⟩
                    have l3 : lvl h3 (j + 1) = lvl h' (j + 1) := by unfold lvl; rw [(A3 (j + 1) (by omega)).1, (A3 (j + 1) (by omega)).2, g 560 _ (by omega), g 561 _ (by omega)]
                    refine mc_cx hmi 2 (F' := (64, [(0, .ref 542), (1, .int k), (3, .int w), (4, .int a3)], [.int (Int8.ofInt 14).toInt32, .int a3], h3, n, 0, 0)) (by with_unfolding_all rfl) ?_
                    refine mc_ci hmi (c := .ge) (tg := 254) (pc' := 67) rfl rfl rfl ha3 (by decide) (fun (q88 : 14 ≤ (j : Int)) => ?_) (fun (q88 : (j : Int) < 14) => ?_)
                    · exact absurd q88 (by omega)
                    · refine mc_cx hmi 1 (F' := (68, [(0, .ref 542), (1, .int k), (3, .int w), (4, .int a3)], [.ref 542], h3, n, 0, 0)) (by with_unfolding_all rfl) ?_
                      refine mc_geti hmi S3.1 (k := 542) (j := 35) (pc' := 71) rfl rfl rfl rfl (fun y89 (e90 : y89.toInt = ab_ri h3 542 35) r91 r92 => ?_)
                      rw [e90] at r91 r92
                      refine mc_cx hmi 1 (F' := (74, [(0, .ref 542), (1, .int k), (3, .int w), (4, .int a3)], [.int (Int16.ofInt 5000).toInt32, .int y89], h3, n, 0, 0)) (by with_unfolding_all rfl) ?_
                      refine mc_ci hmi (c := .ge) (tg := 254) (pc' := 77) rfl rfl rfl e90 (by decide) (fun (q93 : 5000 ≤ ab_ri h3 542 35) => ?_) (fun (q93 : ab_ri h3 542 35 < 5000) => ?_)
                      · refine mc_lvs (lv' := [(0, .ref 542)]) (by simp) ?_
                        exact kx h3 S3.1 S3.2.1
                      · refine mc_cx hmi 1 (F' := (78, [(0, .ref 542), (1, .int k), (3, .int w), (4, .int a3)], [.ref 542], h3, n, 0, 0)) (by with_unfolding_all rfl) ?_
                        refine mc_getr hmi S3.1 (k := 542) (c := 560) (pc' := 81) rfl rfl rfl rfl rfl ?_
                        refine mc_cx hmi 1 (F' := (83, [(0, .ref 542), (1, .int k), (3, .int w), (4, .int a3)], [.int a3, .ref 560], h3, n, 0, 0)) (by with_unfolding_all rfl) ?_
                        refine mc_iald hmi S3.1 (k := 560) (i := (j : Int)) (pc' := 84) rfl rfl rfl ha3 (by omega) (by omega) rfl (fun y94 e95 r96 r97 => ?_)
                        rw [e95] at r96 r97
                        refine mc_cz hmi (c := .ge) (tg := 118) (pc' := 87) rfl rfl rfl e95 (fun (q98 : 0 ≤ ab_ri h3 560 ((j : Int))) => ?_) (fun (q98 : ab_ri h3 560 ((j : Int)) < 0) => ?_)
                        · exact absurd q98 (by omega)
                        · refine mc_cx hmi 3 (F' := (94, [(4, .int (a3 + Int32.ofInt 1)), (0, .ref 542), (1, .int k), (3, .int w)], [.int (Int8.ofInt 14).toInt32, .int (a3 + Int32.ofInt 1)], h3, n, 0, 0)) (by with_unfolding_all rfl) ?_
                          have e99 : (a3 + Int32.ofInt 1).toInt = (j : Int) + 1 := mc_add ha3 (by decide) (by omega) (by omega)
                          have ea4 : (a3 + Int32.ofInt 1).toInt = ((j + 1 : Nat) : Int) := by rw [e99]; omega
                          refine mc_ci hmi (c := .ge) (tg := 60) (pc' := 97) rfl rfl rfl ea4 (by decide) (fun (q100 : 14 ≤ ((j + 1 : Nat) : Int)) => ?_) (fun (q100 : ((j + 1 : Nat) : Int) < 14) => ?_)
                          · exact absurd q100 (by omega)
                          · refine mc_cx hmi 3 (F' := (101, [(4, .int (a3 + Int32.ofInt 1)), (0, .ref 542), (1, .int k), (3, .int w)], [.int (a3 + Int32.ofInt 1), .int k, .ref 542], h3, n, 0, 0)) (by with_unfolding_all rfl) ?_
                            refine mc_call hmi (en := (101, .invokevirtual 188, 3, (3, 179, 11, 0), [1374, 86, 1372])) rfl (q := (mt_X11_nextWay, [.ref 542, .int k, .int (a3 + Int32.ofInt 1)], [])) (mc_inv S3.1 (as := [.int k, .int (a3 + Int32.ofInt 1)]) (rest := []) rfl (by with_unfolding_all rfl) rfl rfl rfl) ⟨rfl, rfl⟩ (pc' := 104) rfl (mc_mono (mc_nextWay (by omega) S3.1 k (a3 + Int32.ofInt 1) hk0 hk1 hj ea4) ?_)
                            intro r6 h6 n6 P6
                            obtain ⟨e6, H6, f6, y6, rfl, hy6⟩ := P6
                            rw [e6]
                            show mc_R _ _ _ _ _ (104, [(4, .int (a3 + Int32.ofInt 1)), (0, .ref 542), (1, .int k), (3, .int w)], [.int y6], h6, n, 0, 0)
                            obtain ⟨S6, A6⟩ := SK_lev S3 (by omega) H6 f6
                            have l0 := l3
                            have ab0 := A3'
                            refine mc_cz hmi (c := .ne) (tg := 60) (pc' := 107) rfl rfl rfl rfl (fun (q101 : y6.toInt ≠ 0) => ?_) (fun (q101 : y6.toInt = 0) => ?_)
                            · refine mc_lvs (lv' := [(0, .ref 542), (1, .int k), (3, .int w), (4, .int (a3 + Int32.ofInt 1))]) (by simp) ?_
                              have l6 : lvl h6 (j + 1) < lvl h3 (j + 1) := hy6.elim (fun q => absurd q q101) (fun q => q.2.2)
                              refine ih h6 (a3 + Int32.ofInt 1) S6 ea4 (by omega) (fun h7 a7 S7 ha7 A7 p7 => kk h7 a7 S7 ha7 (fun i hi => ?_) p7)
                              exact ⟨((A7 i hi).1.trans (A6 i hi).1).trans (ab0 i hi).1, ((A7 i hi).2.trans (A6 i hi).2).trans (ab0 i hi).2⟩
                            · refine mc_cx hmi 1 (F' := (108, [(4, .int (a3 + Int32.ofInt 1)), (0, .ref 542), (1, .int k), (3, .int w)], [.ref 542], h6, n, 0, 0)) (by with_unfolding_all rfl) ?_
                              refine mc_getr hmi H6 (k := 542) (c := 560) (pc' := 111) rfl rfl rfl rfl rfl ?_
                              refine mc_cx hmi 2 (F' := (114, [(4, .int (a3 + Int32.ofInt 1)), (0, .ref 542), (1, .int k), (3, .int w)], [.int (Int32.ofInt (-1)), .int (a3 + Int32.ofInt 1), .ref 560], h6, n, 0, 0)) (by with_unfolding_all rfl) ?_
                              refine mc_iast hmi H6 (k := 560) (i := ((j + 1 : Nat) : Int)) (pc' := 115) rfl rfl rfl ea4 (by omega) (by omega) (by rw [show ((Int32.ofInt (-1))).toInt = (-1) from by decide]; omega) (by rw [show ((Int32.ofInt (-1))).toInt = (-1) from by decide]; omega) rfl (fun h102 H103 w104 => ?_)
                              refine mc_cx hmi 1 (F' := (60, [(4, .int (a3 + Int32.ofInt 1)), (0, .ref 542), (1, .int k), (3, .int w)], [], h102, n, 0, 0)) (by with_unfolding_all rfl) ?_
                              refine mc_lvs (lv' := [(0, .ref 542), (1, .int k), (3, .int w), (4, .int (a3 + Int32.ofInt 1))]) (by simp) ?_
                              have f8 : NWf h6 h102 (j + 1) := fun k' i' p1 p2 => by rw [w104, if_neg (fun q => p1 q.1 q.2)]
                              obtain ⟨S8, A8⟩ := SK_lev S6 (Nat.le_refl _) H103 f8
                              exact kk h102 (a3 + Int32.ofInt 1) S8 ea4 (fun i hi => ⟨((A8 i hi).1.trans (A6 i hi).1).trans (ab0 i hi).1, ((A8 i hi).2.trans (A6 i hi).2).trans (ab0 i hi).2⟩) (by rw [mc_ri w104, if_pos ⟨rfl, rfl⟩]; decide)
                · exact absurd q86 (by omega)
            refine mc_ci hmi (c := .gt) (tg := 189) (pc' := 169) rfl rfl rfl e83 (by decide) (fun (q105 : 24 < ((ab_ri h' 564 (((j + 1 : Nat) : Int)) + ab_ri h' 560 (((j + 1 : Nat) : Int))) + sg (ab_ri h' 561 (((j + 1 : Nat) : Int))))) => ?_) (fun (q105 : ((ab_ri h' 564 (((j + 1 : Nat) : Int)) + ab_ri h' 560 (((j + 1 : Nat) : Int))) + sg (ab_ri h' 561 (((j + 1 : Nat) : Int)))) ≤ 24) => ?_)
            · refine mc_cx hmi 1 (F' := (190, [(6, .int ((y68 + y72) + y81)), (5, .int (y62 - y66)), (0, .ref 542), (1, .int k), (3, .int w), (4, .int a)], [.int (Int32.ofInt 0)], h', n, 0, 0)) (by with_unfolding_all rfl) ?_
              exact k190 _ (fun q => absurd (by decide) q)
            · have hle : ((y68 + y72) + y81).toInt ≤ 24 := by rw [e83]; exact q105
              refine mc_cx hmi 6 (F' := (179, [(6, .int ((y68 + y72) + y81)), (5, .int (y62 - y66)), (0, .ref 542), (1, .int k), (3, .int w), (4, .int a)], [.int ((Int8.ofInt 24).toInt32 - ((y68 + y72) + y81)), .int (y62 - y66), .int a, .ref 542], h', n, 0, 0)) (by with_unfolding_all rfl) ?_
              have e106 : ((Int8.ofInt 24).toInt32 - ((y68 + y72) + y81)).toInt = 24 - ((ab_ri h' 564 (((j + 1 : Nat) : Int)) + ab_ri h' 560 (((j + 1 : Nat) : Int))) + sg (ab_ri h' 561 (((j + 1 : Nat) : Int)))) := mc_sub (by decide) e83 (by omega) (by omega)
              refine mc_callP hmi (en := (179, .invokevirtual 197, 3, (3, 175, 11, 0), [1389, 89, 1387])) rfl (q := (mt_X11_mayCome, [.ref 542, .int a, .int (y62 - y66), .int ((Int8.ofInt 24).toInt32 - ((y68 + y72) + y81))], [])) (mc_inv s1 (as := [.int a, .int (y62 - y66), .int ((Int8.ofInt 24).toInt32 - ((y68 + y72) + y81))]) (rest := []) rfl (by with_unfolding_all rfl) rfl rfl rfl) ⟨rfl, rfl⟩ (pc' := 182) rfl (mc_mayCome (by omega) s1 a (y62 - y66) ((Int8.ofInt 24).toInt32 - ((y68 + y72) + y81)) hj ha) (fun y107 e108 => ?_)
              refine mc_cz hmi (c := .eq) (tg := 189) (pc' := 185) rfl rfl rfl rfl (fun (q109 : y107.toInt = 0) => ?_) (fun (q109 : y107.toInt ≠ 0) => ?_)
              · refine mc_cx hmi 1 (F' := (190, [(6, .int ((y68 + y72) + y81)), (5, .int (y62 - y66)), (0, .ref 542), (1, .int k), (3, .int w), (4, .int a)], [.int (Int32.ofInt 0)], h', n, 0, 0)) (by with_unfolding_all rfl) ?_
                exact k190 _ (fun q => absurd (by decide) q)
              · refine mc_cx hmi 2 (F' := (190, [(6, .int ((y68 + y72) + y81)), (5, .int (y62 - y66)), (0, .ref 542), (1, .int k), (3, .int w), (4, .int a)], [.int (Int32.ofInt 1)], h', n, 0, 0)) (by with_unfolding_all rfl) ?_
                exact k190 _ (fun _ => hle)
          · exact absurd q57 hP
