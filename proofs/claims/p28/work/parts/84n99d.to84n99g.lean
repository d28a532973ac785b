section
/-! ===== fillFrom of the class, its ways (printed by wip/v2/mk99d.py) ===== -/
def FFR (h h' : ax_H) (w : Nat) : Prop := ∀ (k' : Nat) (i' : Int), k' ≠ w → k' ≠ 33 → k' ≠ 30 → k' ≠ 31 → (k' = 28 → i' ≠ 6) → ab_rd h' k' i' = ab_rd h k' i'
/-- what fillFrom leaves -/
def FFP (h : ax_H) (n w N p R : Nat) (sg : Nat → Nat) (b : Prop) (K : df_K) (c place m : Nat) (F : Nat → Nat) (D : fl_D) : Option Value → ax_H → Nat → Prop := fun r' h' n' => n' = n ∧ r' = none ∧ mc_HW h' n ∧ (∃ m' : Nat, m' ≤ m + fl_C p R sg c ∧ CS h' w m' p (fun s g => D s g ∨ fl_E K p sg b place F s g)) ∧ FFR h h' w ∧ ab_ri h' w (-1) = (N : Int) ∧ ∀ j : Nat, j < place → ab_ri h' 31 (j : Int) = ab_ri h 31 (j : Int)
/-- fillFrom at a place, with c places left -/
def FF_R (l : Launch) (G : ax_T) (n w N p R : Nat) (sg : Nat → Nat) (b : Prop) (cu c0 c1 c2 : Nat) (K : df_K) (c d place : Nat) : Prop := ∀ (m : Nat) (h : ax_H) (F : Nat → Nat) (D : fl_D) (tb tt ts to : Nat) (a sv : Int32), a.toInt = (place : Int) → mc_HW h n → FW_E h w N p R sg cu c0 c1 c2 K → m + fl_C p R sg c ≤ N → (∀ j : Nat, j < place → ab_ri h 31 (j : Int) = (F j : Int)) → (∀ i, i < place → fl_ok p sg i (F i)) → df_rn K F place = some (tb, tt, ts, to) → sv = df_E (tb, tt, ts, to) → df_B (tb, tt, ts, to) → CS h w m p D → mc_M l G d mt_X7_fillFrom [.ref 28, .int a, .ref cu, .int sv] h n (FFP h n w N p R sg b K c place m F D)
theorem fl_F_le {K : df_K} {p R : Nat} {sg : Nat → Nat} {b : Prop} (hb : R = p ∧ ¬ b ∨ R = p + 1 ∧ b) {s : Nat} {g : Nat → Nat} (z : fl_F K p sg b s g) : s ≤ R := by
  rcases z.1 with q | q
  · omega
  · rcases hb with u | u
    · exact absurd q.1 u.2
    · omega
theorem fl_e1 {D : fl_D} {K : df_K} {p R place : Nat} {sg F : Nat → Nat} {b : Prop} (hb : R = p ∧ ¬ b ∨ R = p + 1 ∧ b) (hR : place = R) (s : Nat) (g : Nat → Nat) : (D s g ∨ (fl_F K p sg b s g ∧ s = place ∧ ∀ i, i < place → g i = F i)) ↔ D s g ∨ fl_E K p sg b place F s g := by
  refine Iff.trans ?_ (fl_all (R := R) hb s g)
  exact ⟨Or.inl, fun z => z.elim id (fun q => absurd (fl_F_le hb q.1) (by have := q.2.1; omega))⟩
theorem FFR_t {h h' h2 : ax_H} {w : Nat} (a : FFR h h' w) (b : FFR h' h2 w) : FFR h h2 w := fun k' i' p1 p2 p3 p4 p5 => (b k' i' p1 p2 p3 p4 p5).trans (a k' i' p1 p2 p3 p4 p5)
set_option maxHeartbeats 4000000 in
set_option maxRecDepth 100000 in
theorem ff_head {l : Launch} {G : ax_T} {d : Nat} {h : ax_H} {n : Nat} {w N p R : Nat} {sg : Nat → Nat} {b : Prop} {cu c0 c1 c2 : Nat} {K : df_K} (hwn : w < n) (hk34 : ab_k w = 34) (hws : w ≠ 28 ∧ w ≠ 29 ∧ w ≠ 30 ∧ w ≠ 31 ∧ w ≠ 33) (hb : R = p ∧ ¬ b ∨ R = p + 1 ∧ b) (hp20 : p ≤ 20) (hN : N ≤ 41160) (hc : dw_Kf w cu c0 c1 c2) (hd : 3 ≤ d) (H : mc_HW h n) (E : FW_E h w N p R sg cu c0 c1 c2 K) {m place : Nat} {F : Nat → Nat} {D : fl_D} {tb tt ts to : Nat} {a sv : Int32} {Q : Option Value → ax_H → Nat → Prop} (ha : a.toInt = (place : Int)) (hR : place ≤ R) (hm : m + (if p ≤ place then 1 else 0) ≤ N) (hF : ∀ j : Nat, j < place → ab_ri h 31 (j : Int) = (F j : Int)) (hok : ∀ i, i < place → fl_ok p sg i (F i)) (hS : df_rn K F place = some (tb, tt, ts, to)) (hsv : sv = df_E (tb, tt, ts, to)) (hB : df_B (tb, tt, ts, to)) (S : CS h w m p D) (tail : ∀ (h1 : ax_H) (m1 : Nat), mc_HW h1 n → m1 ≤ m + (if p ≤ place then 1 else 0) → CS h1 w m1 p (fun s g => D s g ∨ (fl_F K p sg b s g ∧ s = place ∧ ∀ i, i < place → g i = F i)) → FFR h h1 w → ab_ri h1 w (-1) = (N : Int) → (∀ j : Int, ab_ri h1 31 j = ab_ri h 31 j) → mc_R l G mt_X7_fillFrom d Q (21, [(0, .ref 28), (1, .int a), (2, .ref cu), (3, .int sv)], [], h1, n, 0, 0)) : mc_R l G mt_X7_fillFrom d Q (0, [(0, .ref 28), (1, .int a), (2, .ref cu), (3, .int sv)], [], h, n, 0, 0) := by
  have hmi : mt_X7_fillFrom ∈ mt_prog := List.mem_of_getElem? mi_X7_fillFrom
  obtain ⟨E1, E2, E3, E4, E5, E6⟩ := id E
  obtain ⟨⟨u1, u2⟩, ⟨τs, uk⟩, hk⟩ := id E6
  obtain ⟨hw28, hw29, hw30, hw31, hw33⟩ := hws
  have g1 : tb < 15 := Nat.lt_succ_of_le hB.1
  have g2 : tt < 10 := Nat.lt_succ_of_le hB.2.1
  have g3 : ts < 14 := Nat.lt_succ_of_le hB.2.2.1
  have g4 : to < 3 := Nat.lt_succ_of_le hB.2.2.2
  refine mc_cx hmi 2 (F' := (2, [(0, .ref 28), (1, .int a), (2, .ref cu), (3, .int sv)], [.ref 28, .int a], h, n, 0, 0)) (by with_unfolding_all rfl) ?_
  refine mc_geti hmi H (k := 28) (j := 1) (pc' := 5) rfl rfl rfl rfl (fun y101 (e102 : y101.toInt = ab_ri h 28 1) r103 r104 => ?_)
  rw [e102] at r103 r104
  rw [E3] at e102
  refine mc_ci hmi (c := .lt) (tg := 21) (pc' := 8) rfl rfl rfl ha e102 (fun (q105 : (place : Int) < (p : Int)) => ?_) (fun (q105 : (p : Int) ≤ (place : Int)) => ?_)
  · exact tail h m H (Nat.le_add_right _ _) (CS_ex (fl_k0 (R := R) (fun q => absurd q (by omega)) hb) S) (fun _ _ _ _ _ _ _ => rfl) E2 (fun _ => rfl)
  · have hpp : p ≤ place := by omega
    rw [if_pos hpp] at hm tail
    refine mc_cx hmi 2 (F' := (10, [(0, .ref 28), (1, .int a), (2, .ref cu), (3, .int sv)], [.int sv, .ref cu], h, n, 0, 0)) (by with_unfolding_all rfl) ?_
    refine mc_callP hmi (en := (10, .invokevirtual 75, 3, (4, 21, 1, 0), [647, 9, 951])) rfl (q := (mt_X1_isWhole, [.ref cu, .int sv], [])) (mc_inv H (as := [.int sv]) (rest := []) rfl (by with_unfolding_all rfl) u1.1 uk rfl) ⟨rfl, rfl⟩ (pc' := 13) rfl (dw_isWhole (by omega) H E6 g1 g2 g3 g4 hsv) (fun y106 e107 => ?_)
    refine mc_cz hmi (c := .eq) (tg := 21) (pc' := 16) rfl rfl rfl rfl (fun (q108 : y106.toInt = 0) => ?_) (fun (q108 : y106.toInt ≠ 0) => ?_)
    · have nw : ¬ df_wh K (tb, tt, ts, to) := e107.elim (fun q => absurd (q.1.symm.trans q108) (by decide)) (fun q => q.2)
      exact tail h m H (Nat.le_add_right _ _) (CS_ex (fl_k0 (R := R) (fun _ T hT => by rw [hS] at hT; cases hT; exact nw) hb) S) (fun _ _ _ _ _ _ _ => rfl) E2 (fun _ => rfl)
    · have iw : df_wh K (tb, tt, ts, to) := e107.elim (fun q => q.2) (fun q => absurd q.1 q108)
      refine mc_cx hmi 2 (F' := (18, [(0, .ref 28), (1, .int a), (2, .ref cu), (3, .int sv)], [.int a, .ref 28], h, n, 0, 0)) (by with_unfolding_all rfl) ?_
      refine mc_call hmi (en := (18, .invokevirtual 79, 3, (3, 79, 7, 0), [954, 52, 952])) rfl (q := (mt_X7_keepFilling, [.ref 28, .int a], [])) (mc_inv H (as := [.int a]) (rest := []) rfl (by with_unfolding_all rfl) rfl rfl rfl) ⟨rfl, rfl⟩ (pc' := 21) rfl (mc_mono (kf_ok (by omega) H hwn hk34 ⟨hw28, hw30, hw31, hw33⟩ E1 E2 hN ha (by omega) hpp E3 (by omega) hF (fun j hj => (hok j hj).1) S) ?_)
      intro r1 h1 n1 P1
      obtain ⟨e1, e2, H1, S1, f1, l1⟩ := P1
      rw [e1, e2]
      show mc_R _ _ _ _ _ (21, [(0, .ref 28), (1, .int a), (2, .ref cu), (3, .int sv)], [], h1, n, 0, 0)
      exact tail h1 (m + 1) H1 (Nat.le_refl _) (CS_ex (fl_k1 hb hR hpp hok hS iw) S1) (fun k' i' p1 p2 p3 p4 p5 => f1 k' i' p1 p2 (fun z => absurd z p3) p5) l1 (fun j => ab_ri_of (f1 31 j (fun z => hw31 z.symm) (by decide) (fun z => absurd z (by decide)) (fun z => absurd z (by decide))))
set_option maxHeartbeats 4000000 in
set_option maxRecDepth 100000 in
theorem ff_loop {l : Launch} {G : ax_T} {d n : Nat} {w N p R : Nat} {sg : Nat → Nat} {b : Prop} {cu c0 c1 c2 : Nat} {K : df_K} (hwn : w < n) (hk34 : ab_k w = 34) (hws : w ≠ 28 ∧ w ≠ 29 ∧ w ≠ 30 ∧ w ≠ 31 ∧ w ≠ 33) (hb : R = p ∧ ¬ b ∨ R = p + 1 ∧ b) (hp20 : p ≤ 20) (hN : N ≤ 41160) (hc : dw_Kf w cu c0 c1 c2) (hd : 3 ≤ d) {h0 : ax_H} {c place v0 v1 M : Nat} {F : Nat → Nat} {D1 : fl_D} {tb tt ts to : Nat} {a sv y6 : Int32} {Q : Option Value → ax_H → Nat → Prop} (rc : FF_R l G n w N p R sg b cu c0 c1 c2 K c d (place + 1)) (ha : a.toInt = (place : Int)) (hR : place < R) (hM : M ≤ N) (hF : ∀ j : Nat, j < place → ab_ri h0 31 (j : Int) = (F j : Int)) (hok : ∀ i, i < place → fl_ok p sg i (F i)) (hS : df_rn K F place = some (tb, tt, ts, to)) (hsv : sv = df_E (tb, tt, ts, to)) (hB : df_B (tb, tt, ts, to)) (h6 : y6.toInt = (v1 : Int) - 1) (hv14 : v1 ≤ 14) (hv0 : ∀ v, v0 ≤ v → v < v1 → fl_ok p sg place v) (fin : ∀ (h2 : ax_H) (m2 : Nat), mc_HW h2 n → m2 ≤ M → CS h2 w m2 p (fun s g => D1 s g ∨ fl_V K p sg b place F v1 s g) → FFR h0 h2 w → ab_ri h2 w (-1) = (N : Int) → (∀ j : Nat, j < place → ab_ri h2 31 (j : Int) = ab_ri h0 31 (j : Int)) → Q none h2 n) : ∀ (e v m2 : Nat) (h2 : ax_H) (y7 : Int32), v + e = v1 → v0 ≤ v → y7.toInt = (v : Int) → mc_HW h2 n → FW_E h2 w N p R sg cu c0 c1 c2 K → m2 + e * fl_C p R sg c ≤ M → CS h2 w m2 p (fun s g => D1 s g ∨ fl_V K p sg b place F v s g) → FFR h0 h2 w → (∀ j : Nat, j < place → ab_ri h2 31 (j : Int) = ab_ri h0 31 (j : Int)) → mc_R l G mt_X7_fillFrom d Q (79, [(0, .ref 28), (1, .int a), (2, .ref cu), (3, .int sv), (6, .int y6), (7, .int y7)], [], h2, n, 0, 0) := by
  have hmi : mt_X7_fillFrom ∈ mt_prog := List.mem_of_getElem? mi_X7_fillFrom
  obtain ⟨hw28, hw29, hw30, hw31, hw33⟩ := hws
  have g1 : tb < 15 := Nat.lt_succ_of_le hB.1
  have g2 : tt < 10 := Nat.lt_succ_of_le hB.2.1
  have g3 : ts < 14 := Nat.lt_succ_of_le hB.2.2.1
  have g4 : to < 3 := Nat.lt_succ_of_le hB.2.2.2
  intro e
  induction e with
  | zero =>
    intro v m2 h2 y7 hv hv0' h7 H E hm S f2 t2
    refine mc_cx hmi 2 (F' := (83, [(0, .ref 28), (1, .int a), (2, .ref cu), (3, .int sv), (6, .int y6), (7, .int y7)], [.int y6, .int y7], h2, n, 0, 0)) (by with_unfolding_all rfl) ?_
    refine mc_ci hmi (c := .gt) (tg := 128) (pc' := 86) rfl rfl rfl h7 h6 (fun (q109 : ((v1 : Int) - 1) < (v : Int)) => ?_) (fun (q109 : (v : Int) ≤ ((v1 : Int) - 1)) => ?_)
    · obtain rfl : v = v1 := by omega
      exact mc_ret hmi rfl rfl rfl (fin h2 m2 H (by omega) S f2 E.2.1 t2)
    · exact absurd q109 (by omega)
  | succ e ih =>
    intro v m2 h2 y7 hv hv0' h7 H E hm S f2 t2
    refine mc_cx hmi 2 (F' := (83, [(0, .ref 28), (1, .int a), (2, .ref cu), (3, .int sv), (6, .int y6), (7, .int y7)], [.int y6, .int y7], h2, n, 0, 0)) (by with_unfolding_all rfl) ?_
    refine mc_ci hmi (c := .gt) (tg := 128) (pc' := 86) rfl rfl rfl h7 h6 (fun (q110 : ((v1 : Int) - 1) < (v : Int)) => ?_) (fun (q110 : (v : Int) ≤ ((v1 : Int) - 1)) => ?_)
    · exact absurd q110 (by omega)
    · rw [Nat.succ_mul] at hm
      have hX := Nat.zero_le (e * fl_C p R sg c)
      obtain ⟨⟨u1, u2⟩, ⟨τs, uk⟩, hk⟩ := id E.2.2.2.2.2
      refine mc_cx hmi 3 (F' := (90, [(0, .ref 28), (1, .int a), (2, .ref cu), (3, .int sv), (6, .int y6), (7, .int y7)], [.int y7, .int sv, .ref cu], h2, n, 0, 0)) (by with_unfolding_all rfl) ?_
      refine mc_callP hmi (en := (90, .invokevirtual 83, 3, (4, 20, 1, 0), [611, 3, 957])) rfl (q := (mt_X1_after, [.ref cu, .int sv, .int y7], [])) (mc_inv H (as := [.int sv, .int y7]) (rest := []) rfl (by with_unfolding_all rfl) u1.1 uk rfl) ⟨rfl, rfl⟩ (pc' := 93) rfl (dw_after hd H E.2.2.2.2.2 g1 g2 g3 g4 hsv h7 (by omega)) (fun y111 e112 => ?_)
      have hrn : df_rn K (fl_U F place v) (place + 1) = df_af K (tb, tt, ts, to) v := by
        show (df_rn K (fl_U F place v) place).bind (fun S => df_af K S (fl_U F place v place)) = _
        rw [df_cg place (fun i hi => fl_ue i hi), hS, fl_up]
        rfl
      cases hr : df_af K (tb, tt, ts, to) v with
      | none =>
        rw [hr] at e112 hrn
        have e6 : y111 = Int32.ofInt (-1) := e112
        refine mc_cx hmi 3 (F' := (98, [(8, .int y111), (0, .ref 28), (1, .int a), (2, .ref cu), (3, .int sv), (6, .int y6), (7, .int y7)], [.int (Int32.ofInt (-1)), .int y111], h2, n, 0, 0)) (by with_unfolding_all rfl) ?_
        refine mc_ci hmi (c := .eq) (tg := 122) (pc' := 101) rfl rfl rfl rfl (by decide) (fun (q113 : y111.toInt = (-1)) => ?_) (fun (q113 : y111.toInt ≠ (-1)) => ?_)
        · refine mc_cx hmi 2 (F' := (79, [(7, .int (y7 + Int32.ofInt 1)), (8, .int y111), (0, .ref 28), (1, .int a), (2, .ref cu), (3, .int sv), (6, .int y6)], [], h2, n, 0, 0)) (by with_unfolding_all rfl) ?_
          have e114 : (y7 + Int32.ofInt 1).toInt = (v : Int) + 1 := mc_add h7 (by decide) (by omega) (by omega)
          refine mc_lvs (lv' := [(0, .ref 28), (1, .int a), (2, .ref cu), (3, .int sv), (6, .int y6), (7, .int (y7 + Int32.ofInt 1))]) (by simp) ?_
          exact ih (v + 1) m2 h2 (y7 + Int32.ofInt 1) (by omega) (by omega) (by rw [e114]; omega) H E (by omega) (CS_ex (fun s g => or_congr Iff.rfl ⟨fun z => (fl_vs s g).mpr (Or.inl z), fun z => ((fl_vs s g).mp z).elim id (fun q => absurd q (fl_e0 hrn s g))⟩) S) (f2) (t2)
        · exact absurd (by rw [e6]; decide) q113
      | some T =>
        rw [hr] at e112 hrn
        obtain ⟨b', t', s', o'⟩ := T
        obtain ⟨e6, m1, m3, m4, m5⟩ := e112
        refine mc_cx hmi 3 (F' := (98, [(8, .int y111), (0, .ref 28), (1, .int a), (2, .ref cu), (3, .int sv), (6, .int y6), (7, .int y7)], [.int (Int32.ofInt (-1)), .int y111], h2, n, 0, 0)) (by with_unfolding_all rfl) ?_
        refine mc_ci hmi (c := .eq) (tg := 122) (pc' := 101) rfl rfl rfl rfl (by decide) (fun (q115 : y111.toInt = (-1)) => ?_) (fun (q115 : y111.toInt ≠ (-1)) => ?_)
        · have g5 := df_ne b' (Nat.lt_succ_of_le m1) t' (Nat.lt_succ_of_le m3) s' (Nat.lt_succ_of_le m4) o' (Nat.lt_succ_of_le m5)
          rw [← e6] at g5
          exact absurd q115 (by omega)
        · refine mc_cx hmi 1 (F' := (102, [(8, .int y111), (0, .ref 28), (1, .int a), (2, .ref cu), (3, .int sv), (6, .int y6), (7, .int y7)], [.ref 28], h2, n, 0, 0)) (by with_unfolding_all rfl) ?_
          refine mc_getr hmi H (k := 28) (c := 30) (pc' := 105) rfl rfl rfl rfl rfl ?_
          refine mc_getr hmi H (k := 30) (c := 31) (pc' := 108) rfl rfl rfl rfl rfl ?_
          refine mc_cx hmi 2 (F' := (111, [(8, .int y111), (0, .ref 28), (1, .int a), (2, .ref cu), (3, .int sv), (6, .int y6), (7, .int y7)], [.int y7, .int a, .ref 31], h2, n, 0, 0)) (by with_unfolding_all rfl) ?_
          refine mc_iast hmi H (k := 31) (i := (place : Int)) (pc' := 112) rfl rfl rfl ha (by omega) (by omega) (by rw [h7]; omega) (by rw [h7]; omega) rfl (fun h116 H117 w118 => ?_)
          refine mc_cx hmi 6 (F' := (119, [(8, .int y111), (0, .ref 28), (1, .int a), (2, .ref cu), (3, .int sv), (6, .int y6), (7, .int y7)], [.int y111, .ref cu, .int (a + (Int32.ofInt 1)), .ref 28], h116, n, 0, 0)) (by with_unfolding_all rfl) ?_
          have e119 : (a + (Int32.ofInt 1)).toInt = (place : Int) + 1 := mc_add ha (by decide) (by omega) (by omega)
          have r3 := mc_ri w118
          have E3 : FW_E h116 w N p R sg cu c0 c1 c2 K := FW_E_fr hc hw29 (fun k' i' p1 p2 p3 p4 p5 => by rw [w118, if_neg (fun z => p4 z.1)]) hw28 (by rw [r3, if_neg (fun z => hw31 z.1)]) E
          have hF3 : ∀ j : Nat, j < place + 1 → ab_ri h116 31 (j : Int) = (fl_U F place v j : Int) := by
            intro j hj
            rw [r3]
            unfold fl_U
            by_cases q : j = place
            · rw [if_pos ⟨rfl, by omega⟩, if_pos q]; exact h7
            · rw [if_neg (fun z => q (by have := z.2; omega)), if_neg q, t2 j (by omega)]; exact hF j (by omega)
          have hok3 : ∀ i, i < place + 1 → fl_ok p sg i (fl_U F place v i) := by
            intro i hi
            by_cases q : i = place
            · rw [q, fl_up]; exact hv0 v hv0' (by omega)
            · rw [fl_ue i (by omega)]; exact hok i (by omega)
          have S3 : CS h116 w m2 p (fun s g => D1 s g ∨ fl_V K p sg b place F v s g) := CS_fr (fun k' i' q => by rw [w118, if_neg (fun z => by omega)]) S
          refine mc_call hmi (en := (119, .invokestatic 65, 3, (3, 78, 0, 0), [949, 948])) rfl (q := (mt_X7_fillFrom, [.ref 28, .int (a + (Int32.ofInt 1)), .ref cu, .int y111], [])) (by with_unfolding_all rfl) ⟨rfl, rfl⟩ (pc' := 122) rfl (mc_mono (rc m2 h116 (fl_U F place v) (fun s g => D1 s g ∨ fl_V K p sg b place F v s g) b' t' s' o' (a + (Int32.ofInt 1)) y111 (by rw [e119]; omega) H117 E3 (by omega) hF3 hok3 hrn e6 ⟨m1, m3, m4, m5⟩ S3) ?_)
          intro r4 h4 n4 P4
          obtain ⟨e1, e2, H4, ⟨m', hm', S4⟩, f4, l4, t4⟩ := P4
          rw [e1, e2]
          show mc_R _ _ _ _ _ (122, [(8, .int y111), (0, .ref 28), (1, .int a), (2, .ref cu), (3, .int sv), (6, .int y6), (7, .int y7)], [], h4, n, 0, 0)
          have E4 : FW_E h4 w N p R sg cu c0 c1 c2 K := FW_E_fr hc hw29 f4 hw28 (l4.trans E3.2.1.symm) E3
          refine mc_cx hmi 2 (F' := (79, [(7, .int (y7 + Int32.ofInt 1)), (8, .int y111), (0, .ref 28), (1, .int a), (2, .ref cu), (3, .int sv), (6, .int y6)], [], h4, n, 0, 0)) (by with_unfolding_all rfl) ?_
          have e120 : (y7 + Int32.ofInt 1).toInt = (v : Int) + 1 := mc_add h7 (by decide) (by omega) (by omega)
          refine mc_lvs (lv' := [(0, .ref 28), (1, .int a), (2, .ref cu), (3, .int sv), (6, .int y6), (7, .int (y7 + Int32.ofInt 1))]) (by simp) ?_
          exact ih (v + 1) m' h4 (y7 + Int32.ofInt 1) (by omega) (by omega) (by rw [e120]; omega) H4 E4 (by omega) (CS_ex (fun s g => (or_assoc).trans (or_congr Iff.rfl (fl_vs s g).symm)) S4) (FFR_t f2 (FFR_t (fun k' i' p1 p2 p3 p4 p5 => by rw [w118, if_neg (fun z => p4 z.1)]) f4)) (fun j hj => by rw [t4 j (by omega), r3, if_neg (fun z => by have := z.2; omega)]; exact t2 j hj)
set_option maxHeartbeats 4000000 in
set_option maxRecDepth 100000 in
theorem ff_ok {l : Launch} {G : ax_T} {n : Nat} {w N p R : Nat} {sg : Nat → Nat} {b : Prop} {cu c0 c1 c2 : Nat} {K : df_K} (hwn : w < n) (hk34 : ab_k w = 34) (hws : w ≠ 28 ∧ w ≠ 29 ∧ w ≠ 30 ∧ w ≠ 31 ∧ w ≠ 33) (hb : R = p ∧ ¬ b ∨ R = p + 1 ∧ b) (hp20 : p ≤ 20) (hN : N ≤ 41160) (hc : dw_Kf w cu c0 c1 c2) : ∀ (c d place : Nat), c + 4 ≤ d → place + c = R → FF_R l G n w N p R sg b cu c0 c1 c2 K c d place := by
  have hmi : mt_X7_fillFrom ∈ mt_prog := List.mem_of_getElem? mi_X7_fillFrom
  intro c
  induction c with
  | zero =>
    intro d place hd hR m h F D tb tt ts to a sv ha H E hm hF hok hS hsv hB S
    obtain ⟨d, rfl⟩ : ∃ e, d = e + 1 := ⟨d - 1, by omega⟩
    obtain ⟨hw28, hw29, hw30, hw31, hw33⟩ := id hws
    have hC : fl_C p R sg 0 = 1 := rfl
    have hi : (if p ≤ place then 1 else 0) = 1 := if_pos (by omega)
    refine mc_to hmi rfl ?_
    show mc_R _ _ _ _ _ (0, [(0, .ref 28), (1, .int a), (2, .ref cu), (3, .int sv)], [], h, n, 0, 0)
    refine ff_head hwn hk34 hws hb hp20 hN hc (by omega) H E ha (by omega) (by rw [hi]; exact hm) hF hok hS hsv hB S (fun h1 m1 H1 hm1 S1 f1 l1 t1 => ?_)
    have X1 : FW_E h1 w N p R sg cu c0 c1 c2 K := FW_E_fr hc hw29 f1 hw28 (l1.trans E.2.1.symm) E
    refine mc_cx hmi 2 (F' := (23, [(0, .ref 28), (1, .int a), (2, .ref cu), (3, .int sv)], [.ref 28, .int a], h1, n, 0, 0)) (by with_unfolding_all rfl) ?_
    refine mc_geti hmi H1 (k := 28) (j := 2) (pc' := 26) rfl rfl rfl rfl (fun y121 (e122 : y121.toInt = ab_ri h1 28 2) r123 r124 => ?_)
    rw [e122] at r123 r124
    rw [X1.2.2.2.1] at e122
    refine mc_ci hmi (c := .ge) (tg := 35) (pc' := 29) rfl rfl rfl ha e122 (fun (q125 : (R : Int) ≤ (place : Int)) => ?_) (fun (q125 : (place : Int) < (R : Int)) => ?_)
    · exact mc_ret hmi rfl rfl rfl ⟨rfl, rfl, H1, ⟨m1, by rw [hi] at hm1; exact hm1, CS_ex (fl_e1 hb (by omega)) S1⟩, f1, l1, fun j _ => t1 j⟩
    · exact absurd q125 (by omega)
  | succ c ih =>
    intro d place hd hR m h F D tb tt ts to a sv ha H E hm hF hok hS hsv hB S
    obtain ⟨d, rfl⟩ : ∃ e, d = e + 1 := ⟨d - 1, by omega⟩
    obtain ⟨hw28, hw29, hw30, hw31, hw33⟩ := id hws
    have hC : fl_C p R sg (c + 1) = (if p ≤ R - (c + 1) then 1 else 0) + (if p ≤ R - (c + 1) ∨ sg (R - (c + 1)) = 14 then 14 else 1) * fl_C p R sg c := rfl
    rw [show R - (c + 1) = place by omega] at hC
    refine mc_to hmi rfl ?_
    show mc_R _ _ _ _ _ (0, [(0, .ref 28), (1, .int a), (2, .ref cu), (3, .int sv)], [], h, n, 0, 0)
    refine ff_head hwn hk34 hws hb hp20 hN hc (by omega) H E ha (by omega) (by rw [hC] at hm; exact Nat.le_trans (Nat.add_le_add_left (Nat.le_add_right _ _) m) hm) hF hok hS hsv hB S (fun h1 m1 H1 hm1 S1 f1 l1 t1 => ?_)
    have X1 : FW_E h1 w N p R sg cu c0 c1 c2 K := FW_E_fr hc hw29 f1 hw28 (l1.trans E.2.1.symm) E
    refine mc_cx hmi 2 (F' := (23, [(0, .ref 28), (1, .int a), (2, .ref cu), (3, .int sv)], [.ref 28, .int a], h1, n, 0, 0)) (by with_unfolding_all rfl) ?_
    refine mc_geti hmi H1 (k := 28) (j := 2) (pc' := 26) rfl rfl rfl rfl (fun y126 (e127 : y126.toInt = ab_ri h1 28 2) r128 r129 => ?_)
    rw [e127] at r128 r129
    rw [X1.2.2.2.1] at e127
    refine mc_ci hmi (c := .ge) (tg := 35) (pc' := 29) rfl rfl rfl ha e127 (fun (q130 : (R : Int) ≤ (place : Int)) => ?_) (fun (q130 : (place : Int) < (R : Int)) => ?_)
    · exact absurd q130 (by omega)
    · refine mc_cx hmi 2 (F' := (32, [(0, .ref 28), (1, .int a), (2, .ref cu), (3, .int sv)], [.int (Int8.ofInt 20).toInt32, .int a], h1, n, 0, 0)) (by with_unfolding_all rfl) ?_
      refine mc_ci hmi (c := .le) (tg := 36) (pc' := 35) rfl rfl rfl ha (by decide) (fun (q131 : (place : Int) ≤ 20) => ?_) (fun (q131 : 20 < (place : Int)) => ?_)
      · refine mc_cx hmi 1 (F' := (37, [(0, .ref 28), (1, .int a), (2, .ref cu), (3, .int sv)], [.ref 28], h1, n, 0, 0)) (by with_unfolding_all rfl) ?_
        refine mc_getr hmi H1 (k := 28) (c := 29) (pc' := 40) rfl rfl rfl rfl rfl ?_
        refine mc_cx hmi 1 (F' := (41, [(0, .ref 28), (1, .int a), (2, .ref cu), (3, .int sv)], [.int a, .ref 29], h1, n, 0, 0)) (by with_unfolding_all rfl) ?_
        refine mc_iald hmi H1 (k := 29) (i := (place : Int)) (pc' := 42) rfl rfl rfl ha (by omega) (by omega) rfl (fun y132 e133 r134 r135 => ?_)
        rw [e133] at r134 r135
        rw [X1.2.2.2.2.1 place (by omega)] at e133 r134 r135
        by_cases hq : p ≤ place ∨ sg place = 14
        · have hk14 : (if p ≤ place then 14 else (sg place : Int)) = 14 := by
            split
            · rfl
            · rename_i u; exact hq.elim (fun v => absurd v u) (fun v => by omega)
          rw [hk14] at e133 r134 r135
          have hq14 : 14 ≤ 14 := Nat.le_refl 14
          refine mc_cx hmi 3 (F' := (48, [(4, .int y132), (0, .ref 28), (1, .int a), (2, .ref cu), (3, .int sv)], [.int (Int8.ofInt 14).toInt32, .int y132], h1, n, 0, 0)) (by with_unfolding_all rfl) ?_
          refine mc_ci hmi (c := .ne) (tg := 55) (pc' := 51) rfl rfl rfl e133 (by decide) (fun (q136 : (14 : Int) ≠ 14) => ?_) (fun (q136 : (14 : Int) = 14) => ?_)
          · exact absurd rfl q136
          · refine mc_cx hmi 5 (F' := (63, [(5, .int (Int32.ofInt 0)), (4, .int y132), (0, .ref 28), (1, .int a), (2, .ref cu), (3, .int sv)], [.int (Int8.ofInt 14).toInt32, .int y132], h1, n, 0, 0)) (by with_unfolding_all rfl) ?_
            refine mc_ci hmi (c := .ne) (tg := 71) (pc' := 66) rfl rfl rfl e133 (by decide) (fun (q137 : (14 : Int) ≠ 14) => ?_) (fun (q137 : (14 : Int) = 14) => ?_)
            · exact absurd rfl q137
            · refine mc_cx hmi 5 (F' := (79, [(7, .int (Int32.ofInt 0)), (6, .int (Int8.ofInt 13).toInt32), (5, .int (Int32.ofInt 0)), (4, .int y132), (0, .ref 28), (1, .int a), (2, .ref cu), (3, .int sv)], [], h1, n, 0, 0)) (by with_unfolding_all rfl) ?_
              refine mc_lvs (lv' := [(0, .ref 28), (1, .int a), (2, .ref cu), (3, .int sv), (6, .int (Int8.ofInt 13).toInt32), (7, .int (Int32.ofInt 0))]) (by simp) ?_
              have hC2 : fl_C p R sg (c + 1) = (if p ≤ place then 1 else 0) + 14 * fl_C p R sg c := by rw [hC, if_pos hq]
              have hz : 0 = if p ≤ place ∨ sg place = 14 then 0 else sg place := by rw [if_pos hq]
              have hz1 : 14 = if p ≤ place ∨ sg place = 14 then 14 else sg place + 1 := by rw [if_pos hq]
              refine ff_loop (D1 := (fun s g => D s g ∨ (fl_F K p sg b s g ∧ s = place ∧ ∀ i, i < place → g i = F i))) (v0 := 0) (v1 := 14) (M := m + fl_C p R sg (c + 1)) hwn hk34 hws hb hp20 hN hc (by omega) (ih d (place + 1) (by omega) (by omega)) ha (by omega) hm (fun j hj => (t1 j).trans (hF j hj)) hok hS hsv hB (by decide) (by omega) (fun v _ q => ⟨q, hq.elim Or.inl (fun u => Or.inr (Or.inl u))⟩) (fun h2 m2 H2 hm2 S2 f2 l2 t2 => ?_) 14 0 m1 h1 (Int32.ofInt 0) (by omega) (Nat.le_refl _) (by decide) H1 X1 (by omega) (CS_ex (fun s g => ⟨Or.inl, fun z => z.elim id (fun u => absurd u (fl_v0 (by omega) hb hz s g))⟩) S1) (fun _ _ _ _ _ _ _ => rfl) (fun _ _ => rfl)
              exact ⟨rfl, rfl, H2, ⟨m2, hm2, CS_ex (fun s g => (or_congr Iff.rfl (fl_v1 (by omega) hb hz1 s g)).trans (fl_all hb s g)) S2⟩, FFR_t f1 f2, l2, fun j hj => (t2 j hj).trans (t1 j)⟩
        · have hk14 : (if p ≤ place then 14 else (sg place : Int)) ≠ 14 := by
            rw [if_neg (fun u => hq (Or.inl u))]
            exact fun u => hq (Or.inr (by omega))
          rw [if_neg (fun u => hq (Or.inl u))] at e133 r134 r135 hk14
          refine mc_cx hmi 3 (F' := (48, [(4, .int y132), (0, .ref 28), (1, .int a), (2, .ref cu), (3, .int sv)], [.int (Int8.ofInt 14).toInt32, .int y132], h1, n, 0, 0)) (by with_unfolding_all rfl) ?_
          refine mc_ci hmi (c := .ne) (tg := 55) (pc' := 51) rfl rfl rfl e133 (by decide) (fun (q138 : (sg place : Int) ≠ 14) => ?_) (fun (q138 : (sg place : Int) = 14) => ?_)
          · refine mc_cx hmi 4 (F' := (63, [(5, .int y132), (4, .int y132), (0, .ref 28), (1, .int a), (2, .ref cu), (3, .int sv)], [.int (Int8.ofInt 14).toInt32, .int y132], h1, n, 0, 0)) (by with_unfolding_all rfl) ?_
            refine mc_ci hmi (c := .ne) (tg := 71) (pc' := 66) rfl rfl rfl e133 (by decide) (fun (q139 : (sg place : Int) ≠ 14) => ?_) (fun (q139 : (sg place : Int) = 14) => ?_)
            · refine mc_cx hmi 4 (F' := (79, [(7, .int y132), (6, .int y132), (5, .int y132), (4, .int y132), (0, .ref 28), (1, .int a), (2, .ref cu), (3, .int sv)], [], h1, n, 0, 0)) (by with_unfolding_all rfl) ?_
              refine mc_lvs (lv' := [(0, .ref 28), (1, .int a), (2, .ref cu), (3, .int sv), (6, .int y132), (7, .int y132)]) (by simp) ?_
              have hC2 : fl_C p R sg (c + 1) = (if p ≤ place then 1 else 0) + 1 * fl_C p R sg c := by rw [hC, if_neg hq]
              have hz : (sg place) = if p ≤ place ∨ sg place = 14 then 0 else sg place := by rw [if_neg hq]
              have hz1 : (sg place + 1) = if p ≤ place ∨ sg place = 14 then 14 else sg place + 1 := by rw [if_neg hq]
              refine ff_loop (D1 := (fun s g => D s g ∨ (fl_F K p sg b s g ∧ s = place ∧ ∀ i, i < place → g i = F i))) (v0 := (sg place)) (v1 := (sg place + 1)) (M := m + fl_C p R sg (c + 1)) hwn hk34 hws hb hp20 hN hc (by omega) (ih d (place + 1) (by omega) (by omega)) ha (by omega) hm (fun j hj => (t1 j).trans (hF j hj)) hok hS hsv hB (by rw [e133]; omega) (by omega) (fun v q1 q2 => ⟨by omega, Or.inr (Or.inr (by omega))⟩) (fun h2 m2 H2 hm2 S2 f2 l2 t2 => ?_) 1 (sg place) m1 h1 y132 (by omega) (Nat.le_refl _) e133 H1 X1 (by omega) (CS_ex (fun s g => ⟨Or.inl, fun z => z.elim id (fun u => absurd u (fl_v0 (by omega) hb hz s g))⟩) S1) (fun _ _ _ _ _ _ _ => rfl) (fun _ _ => rfl)
              exact ⟨rfl, rfl, H2, ⟨m2, hm2, CS_ex (fun s g => (or_congr Iff.rfl (fl_v1 (by omega) hb hz1 s g)).trans (fl_all hb s g)) S2⟩, FFR_t f1 f2, l2, fun j hj => (t2 j hj).trans (t1 j)⟩
            · exact absurd q139 (by omega)
          · exact absurd q138 hk14
      · exact absurd q131 (by omega)
end
section
/-! ===== room for all fillings (ways printed by wip/v2/mk99e.py) ===== -/
/-- how many fillings the gaps among the first places allow -/
def fm (sg : Nat → Nat) : Nat → Nat
  | 0 => 1
  | j + 1 => fm sg j * (if sg j = 14 then 14 else 1)
theorem fm_gc {h : ax_H} {sg : Nat → Nat} {p : Nat} (hs : ∀ i : Nat, i < p → ab_ri h 29 (i : Int) = (sg i : Int)) : ∀ j : Nat, j ≤ p → fm sg j = 14 ^ ab_gc h 29 j
  | 0, _ => rfl
  | j + 1, hj => by
    show fm sg j * (if sg j = 14 then 14 else 1) = 14 ^ (ab_gc h 29 j + (if ab_ri h 29 (j : Int) = 14 then 1 else 0))
    rw [fm_gc hs j (by omega), hs j (by omega)]
    by_cases q : sg j = 14
    · rw [if_pos q, if_pos (by omega), Nat.pow_succ]
    · rw [if_neg q, if_neg (by omega), Nat.mul_one, Nat.add_zero]
theorem fm_pos {sg : Nat → Nat} : ∀ j : Nat, 1 ≤ fm sg j
  | 0 => Nat.le_refl 1
  | j + 1 => by
    have := fm_pos (sg := sg) j
    show 1 ≤ fm sg j * (if sg j = 14 then 14 else 1)
    split <;> omega
theorem fm_mono {sg : Nat → Nat} {p : Nat} : ∀ e j : Nat, j + e = p → fm sg j ≤ fm sg p
  | 0, j, h => by rw [← h]; exact Nat.le_refl _
  | e + 1, j, h => by
    refine Nat.le_trans ?_ (fm_mono e (j + 1) (by omega))
    show fm sg j ≤ fm sg j * (if sg j = 14 then 14 else 1)
    split <;> omega
/-- the same bound -/
theorem fm_C {p R : Nat} {sg : Nat → Nat} (hR : p ≤ R) : ∀ j : Nat, j ≤ p → fl_C p R sg (R - j) * fm sg j = fl_C p R sg R
  | 0, _ => by rw [Nat.sub_zero]; exact Nat.mul_one _
  | j + 1, hj => by
    rw [← fm_C hR j (by omega)]
    have e : R - j = (R - (j + 1)) + 1 := by omega
    rw [e]
    show fl_C p R sg (R - (j + 1)) * (fm sg j * (if sg j = 14 then 14 else 1)) = ((if p ≤ R - ((R - (j + 1)) + 1) then 1 else 0) + (if p ≤ R - ((R - (j + 1)) + 1) ∨ sg (R - ((R - (j + 1)) + 1)) = 14 then 14 else 1) * fl_C p R sg (R - (j + 1))) * fm sg j
    rw [show R - ((R - (j + 1)) + 1) = j by omega, if_neg (show ¬ p ≤ j by omega), Nat.zero_add]
    by_cases q : sg j = 14
    · rw [if_pos q, if_pos (Or.inr q), Nat.mul_comm (fm sg j) 14, ← Nat.mul_assoc, Nat.mul_comm (fl_C p R sg (R - (j + 1))) 14]
    · rw [if_neg q, if_neg (fun u => u.elim (fun v => by omega) q), Nat.mul_one, Nat.one_mul]
theorem fl_C_fm {p R : Nat} {sg : Nat → Nat} (hR : R = p ∨ R = p + 1) : fl_C p R sg R = (if p < R then 15 else 1) * fm sg p := by
  rw [← fm_C (p := p) (R := R) (sg := sg) (by omega) p (Nat.le_refl p)]
  rcases hR with rfl | rfl
  · rw [Nat.sub_self, if_neg (Nat.lt_irrefl _)]
    rfl
  · rw [show p + 1 - p = 0 + 1 by omega, if_pos (Nat.lt_succ_self p)]
    show ((if p ≤ p + 1 - (0 + 1) then 1 else 0) + (if p ≤ p + 1 - (0 + 1) ∨ sg (p + 1 - (0 + 1)) = 14 then 14 else 1) * 1) * fm sg p = _
    rw [if_pos (show p ≤ p + 1 - (0 + 1) by omega), if_pos (Or.inl (show p ≤ p + 1 - (0 + 1) by omega))]
    all_goals rfl
theorem dy_ne {w k : Nat} (hw : ab_k w = 34) (hk : ab_k k ≠ 34) : w ≠ k := fun e => hk (e ▸ hw)
/-- what makeRoom leaves: a worths' array with room for all -/
def MRP (h : ax_H) (n w N0 C : Nat) : Option Value → ax_H → Nat → Prop := fun r' h' n' => r' = none ∧ mc_HW h' n' ∧ n ≤ n' ∧ (∀ (k' : Nat) (i' : Int), k' < n → (k' = 28 → i' ≠ 4) → ab_rd h' k' i' = ab_rd h k' i') ∧ ∃ w' N' : Nat, (w' = w ∨ w' = n) ∧ w' < n' ∧ ab_k w' = 34 ∧ ab_rd h' 28 4 = some (.ref w') ∧ ab_ri h' w' (-1) = (N' : Int) ∧ C ≤ N' ∧ N0 ≤ N' ∧ N' ≤ 41160
set_option maxHeartbeats 4000000 in
set_option maxRecDepth 100000 in
theorem rm_lp {l : Launch} {G : ax_T} {d : Nat} {h : ax_H} {n : Nat} (H : mc_HW h n) {w N0 p R : Nat} {sg : Nat → Nat} (hwn : w < n) (hk34 : ab_k w = 34) (w4 : ab_rd h 28 4 = some (.ref w)) (wl : ab_ri h w (-1) = (N0 : Int)) (hN0 : N0 ≤ 41160) (hp : ab_ri h 28 1 = (p : Int)) (hsg : ∀ i : Nat, i < p → ab_ri h 29 (i : Int) = (sg i : Int)) (hfm : fm sg p ≤ 2744) {q0 C : Nat} (hq : q0 = 1 ∨ q0 = 15) (hC : C = q0 * fm sg p) : ∀ (c j : Nat) (x i : Int32), j + c = p → i.toInt = (j : Int) → x.toInt = ((q0 * fm sg j : Nat) : Int) → mc_R l G mt_X7_makeRoom d (MRP h n w N0 C) (20, [(0, .ref 28), (1, .int x), (2, .int i)], [], h, n, 0, 0) := by
  have hmi : mt_X7_makeRoom ∈ mt_prog := List.mem_of_getElem? mi_X7_makeRoom
  have hp20 : 0 ≤ ab_ri h 28 1 ∧ ab_ri h 28 1 ≤ 20 := mc_frng H (k := 28) (j := 1) (ci := 7) rfl rfl
  intro c
  induction c with
  | zero =>
    intro j x i hj hi hx
    have hf := fm_mono (sg := sg) (p := p) _ j hj
    have hf1 := fm_pos (sg := sg) j
    obtain ⟨X, hX⟩ : ∃ X, X = q0 * fm sg j := ⟨_, rfl⟩
    have hX1 : X ≤ 15 * 2744 := by rw [hX]; exact Nat.mul_le_mul (by omega) (by omega)
    have hX0 : 1 ≤ X := by rw [hX]; exact Nat.mul_le_mul (show 1 ≤ q0 by omega) hf1
    rw [← hX] at hx
    refine mc_cx hmi 2 (F' := (22, [(0, .ref 28), (1, .int x), (2, .int i)], [.ref 28, .int i], h, n, 0, 0)) (by with_unfolding_all rfl) ?_
    refine mc_geti hmi H (k := 28) (j := 1) (pc' := 25) rfl rfl rfl rfl (fun y101 (e102 : y101.toInt = ab_ri h 28 1) r103 r104 => ?_)
    rw [e102] at r103 r104
    rw [hp] at e102
    refine mc_ci hmi (c := .ge) (tg := 54) (pc' := 28) rfl rfl rfl hi e102 (fun (q105 : (p : Int) ≤ (j : Int)) => ?_) (fun (q105 : (j : Int) < (p : Int)) => ?_)
    · obtain rfl : j = p := by omega
      refine mc_cx hmi 2 (F' := (56, [(0, .ref 28), (1, .int x), (2, .int i)], [.ref 28, .int x], h, n, 0, 0)) (by with_unfolding_all rfl) ?_
      refine mc_getrC hmi H (k := 28) (c := w) (j := 4) (pc' := 59) rfl rfl rfl w4 rfl ?_
      refine mc_walen hmi H hwn hk34 (pc' := 60) rfl rfl (fun y106 e107 => ?_)
      rw [wl] at e107
      refine mc_ci hmi (c := .le) (tg := 70) (pc' := 63) rfl rfl rfl hx e107 (fun (q108 : (X : Int) ≤ (N0 : Int)) => ?_) (fun (q108 : (N0 : Int) < (X : Int)) => ?_)
      · exact mc_ret hmi rfl rfl rfl ⟨rfl, H, Nat.le_refl n, fun _ _ _ _ => rfl, w, N0, Or.inl rfl, hwn, hk34, w4, wl, by omega, Nat.le_refl _, hN0⟩
      · refine mc_cx hmi 2 (F' := (65, [(0, .ref 28), (1, .int x), (2, .int i)], [.int x, .ref 28], h, n, 0, 0)) (by with_unfolding_all rfl) ?_
        have hk4 : ab_k n = 34 := ab_k_new H.1
        refine md_newa (ci := 0) hmi H (N := X) (pc' := 67) rfl hx (by omega) (by omega) ⟨Nat.le_refl 1, (show X ≤ 41160 by omega)⟩ rfl (fun h2 H2 f2 l2 z2 => ?_)
        refine md_putv (cs := 1) (ss := X) ⟨hmi, Nat.le_refl 1, (show X ≤ 41160 by omega)⟩ H2 (k := 28) (j := 4) (τ := .inr (some 17179869184)) (pc' := 70) rfl rfl rfl rfl ⟨n, rfl, Nat.lt_succ_self n, by rw [hk4]; rfl⟩ rfl (fun h3 H3 w3 => ?_)
        refine md_ret (cs := 1) (ss := X) ⟨hmi, Nat.le_refl 1, (show X ≤ 41160 by omega)⟩ rfl rfl rfl ⟨rfl, H3, Nat.le_succ n, fun k' i' hk' hne => ?_, n, X, Or.inr rfl, Nat.lt_succ_self n, hk4, ?_, ?_, by omega, by omega, by omega⟩
        · rw [w3, if_neg (fun q => hne q.1 q.2)]; exact f2 k' i' hk'
        · rw [w3, if_pos ⟨rfl, rfl⟩]
        · unfold ab_ri
          rw [w3, if_neg (fun q => by have := H.1; omega)]
          exact l2
    · exact absurd q105 (by omega)
  | succ c ih =>
    intro j x i hj hi hx
    have hf := fm_mono (sg := sg) (p := p) _ j hj
    have hf1 := fm_pos (sg := sg) j
    obtain ⟨X, hX⟩ : ∃ X, X = q0 * fm sg j := ⟨_, rfl⟩
    have hX1 : X ≤ 15 * 2744 := by rw [hX]; exact Nat.mul_le_mul (by omega) (by omega)
    have hX0 : 1 ≤ X := by rw [hX]; exact Nat.mul_le_mul (show 1 ≤ q0 by omega) hf1
    rw [← hX] at hx
    refine mc_cx hmi 2 (F' := (22, [(0, .ref 28), (1, .int x), (2, .int i)], [.ref 28, .int i], h, n, 0, 0)) (by with_unfolding_all rfl) ?_
    refine mc_geti hmi H (k := 28) (j := 1) (pc' := 25) rfl rfl rfl rfl (fun y109 (e110 : y109.toInt = ab_ri h 28 1) r111 r112 => ?_)
    rw [e110] at r111 r112
    rw [hp] at e110
    refine mc_ci hmi (c := .ge) (tg := 54) (pc' := 28) rfl rfl rfl hi e110 (fun (q113 : (p : Int) ≤ (j : Int)) => ?_) (fun (q113 : (j : Int) < (p : Int)) => ?_)
    · exact absurd q113 (by omega)
    · refine mc_cx hmi 2 (F' := (30, [(0, .ref 28), (1, .int x), (2, .int i)], [.ref 28, .int x], h, n, 0, 0)) (by with_unfolding_all rfl) ?_
      refine mc_getr hmi H (k := 28) (c := 29) (pc' := 33) rfl rfl rfl rfl rfl ?_
      refine mc_cx hmi 1 (F' := (34, [(0, .ref 28), (1, .int x), (2, .int i)], [.int i, .ref 29, .int x], h, n, 0, 0)) (by with_unfolding_all rfl) ?_
      refine mc_iald hmi H (k := 29) (i := (j : Int)) (pc' := 35) rfl rfl rfl hi (by omega) (by omega) rfl (fun y114 e115 r116 r117 => ?_)
      rw [e115] at r116 r117
      rw [hsg j (by omega)] at e115 r116 r117
      refine mc_cx hmi 1 (F' := (37, [(0, .ref 28), (1, .int x), (2, .int i)], [.int (Int8.ofInt 14).toInt32, .int y114, .int x], h, n, 0, 0)) (by with_unfolding_all rfl) ?_
      refine mc_ci hmi (c := .ne) (tg := 45) (pc' := 40) rfl rfl rfl e115 (by decide) (fun (q118 : (sg j : Int) ≠ 14) => ?_) (fun (q118 : (sg j : Int) = 14) => ?_)
      · have hs : fm sg (j + 1) = fm sg j * 1 := by
          show fm sg j * (if sg j = 14 then 14 else 1) = _
          rw [if_neg (by omega)]
        refine mc_cx hmi 5 (F' := (20, [(2, .int (i + Int32.ofInt 1)), (1, .int (x * (Int32.ofInt 1))), (0, .ref 28)], [], h, n, 0, 0)) (by with_unfolding_all rfl) ?_
        have e119 : (x * (Int32.ofInt 1)).toInt = (X : Int) * 1 := mc_mul hx (by decide) (by omega) (by omega)
        have e120 : (i + Int32.ofInt 1).toInt = (j : Int) + 1 := mc_add hi (by decide) (by omega) (by omega)
        refine mc_lvs (lv' := [(0, .ref 28), (1, .int (x * (Int32.ofInt 1))), (2, .int (i + Int32.ofInt 1))]) (by simp) ?_
        exact ih (j + 1) (x * (Int32.ofInt 1)) (i + Int32.ofInt 1) (by omega) (by rw [e120]; omega) (by rw [e119, hs, ← Nat.mul_assoc, ← hX]; omega)
      · have hs : fm sg (j + 1) = fm sg j * 14 := by
          show fm sg j * (if sg j = 14 then 14 else 1) = _
          rw [if_pos (by omega)]
        refine mc_cx hmi 6 (F' := (20, [(2, .int (i + Int32.ofInt 1)), (1, .int (x * (Int8.ofInt 14).toInt32)), (0, .ref 28)], [], h, n, 0, 0)) (by with_unfolding_all rfl) ?_
        have e121 : (x * (Int8.ofInt 14).toInt32).toInt = (X : Int) * 14 := mc_mul hx (by decide) (by omega) (by omega)
        have e122 : (i + Int32.ofInt 1).toInt = (j : Int) + 1 := mc_add hi (by decide) (by omega) (by omega)
        refine mc_lvs (lv' := [(0, .ref 28), (1, .int (x * (Int8.ofInt 14).toInt32)), (2, .int (i + Int32.ofInt 1))]) (by simp) ?_
        exact ih (j + 1) (x * (Int8.ofInt 14).toInt32) (i + Int32.ofInt 1) (by omega) (by rw [e122]; omega) (by rw [e121, hs, ← Nat.mul_assoc, ← hX]; omega)
set_option maxHeartbeats 4000000 in
set_option maxRecDepth 100000 in
theorem rm_ok {l : Launch} {G : ax_T} {d : Nat} {h : ax_H} {n : Nat} (hd : 1 ≤ d) (H : mc_HW h n) {w N0 p R : Nat} {sg : Nat → Nat} (hwn : w < n) (hk34 : ab_k w = 34) (w4 : ab_rd h 28 4 = some (.ref w)) (wl : ab_ri h w (-1) = (N0 : Int)) (hN0 : N0 ≤ 41160) (hp : ab_ri h 28 1 = (p : Int)) (hsg : ∀ i : Nat, i < p → ab_ri h 29 (i : Int) = (sg i : Int)) (hfm : fm sg p ≤ 2744) (hR : ab_ri h 28 2 = (R : Int)) (hpR : R = p ∨ R = p + 1) : mc_M l G d mt_X7_makeRoom [.ref 28] h n (MRP h n w N0 (fl_C p R sg R)) := by
  obtain ⟨d, rfl⟩ : ∃ e, d = e + 1 := ⟨d - 1, by omega⟩
  have hmi : mt_X7_makeRoom ∈ mt_prog := List.mem_of_getElem? mi_X7_makeRoom
  refine mc_to hmi rfl ?_
  have hC := fl_C_fm (sg := sg) hpR
  show mc_R _ _ _ _ _ (0, [(0, .ref 28)], [], h, n, 0, 0)
  refine mc_cx hmi 1 (F' := (1, [(0, .ref 28)], [.ref 28], h, n, 0, 0)) (by with_unfolding_all rfl) ?_
  refine mc_geti hmi H (k := 28) (j := 2) (pc' := 4) rfl rfl rfl rfl (fun y123 (e124 : y123.toInt = ab_ri h 28 2) r125 r126 => ?_)
  rw [e124] at r125 r126
  refine mc_cx hmi 1 (F' := (5, [(0, .ref 28)], [.ref 28, .int y123], h, n, 0, 0)) (by with_unfolding_all rfl) ?_
  refine mc_geti hmi H (k := 28) (j := 1) (pc' := 8) rfl rfl rfl rfl (fun y127 (e128 : y127.toInt = ab_ri h 28 1) r129 r130 => ?_)
  rw [e128] at r129 r130
  rw [hR] at e124
  rw [hp] at e128
  refine mc_ci hmi (c := .le) (tg := 16) (pc' := 11) rfl rfl rfl e124 e128 (fun (q131 : (R : Int) ≤ (p : Int)) => ?_) (fun (q131 : (p : Int) < (R : Int)) => ?_)
  · rw [if_neg (by omega)] at hC
    refine mc_cx hmi 4 (F' := (20, [(2, .int (Int32.ofInt 0)), (1, .int (Int32.ofInt 1)), (0, .ref 28)], [], h, n, 0, 0)) (by with_unfolding_all rfl) ?_
    refine mc_lvs (lv' := [(0, .ref 28), (1, .int (Int32.ofInt 1)), (2, .int (Int32.ofInt 0))]) (by simp) ?_
    exact rm_lp (R := R) H hwn hk34 w4 wl hN0 hp hsg hfm (q0 := 1) (by decide) hC p 0 _ _ (Nat.zero_add p) (by decide) (show ((Int32.ofInt 1)).toInt = ((1 : Nat) : Int) from by decide)
  · rw [if_pos (by omega)] at hC
    refine mc_cx hmi 5 (F' := (20, [(2, .int (Int32.ofInt 0)), (1, .int (Int8.ofInt 15).toInt32), (0, .ref 28)], [], h, n, 0, 0)) (by with_unfolding_all rfl) ?_
    refine mc_lvs (lv' := [(0, .ref 28), (1, .int (Int8.ofInt 15).toInt32), (2, .int (Int32.ofInt 0))]) (by simp) ?_
    exact rm_lp (R := R) H hwn hk34 w4 wl hN0 hp hsg hfm (q0 := 15) (by decide) hC p 0 _ _ (Nat.zero_add p) (by decide) (show ((Int8.ofInt 15).toInt32).toInt = ((15 : Nat) : Int) from by decide)
end
section
/-! ===== the worths sorted, like ones dropped (ways printed by wip/v2/mk99f.py) ===== -/
theorem mc_div {x y : Int32} {a b : Int} (hx : x.toInt = a) (hy : y.toInt = b) (h0 : 0 ≤ a) (h1 : 1 ≤ b) : (x / y).toInt = a / b := by
  have hy1 : 1 ≤ y.toInt := by rw [hy]; exact h1
  rw [Int32.toInt_div_of_ne_right x y (fun q => by rw [q] at hy1; exact absurd hy1 (by decide)), hx, hy, Int.tdiv_eq_ediv_of_nonneg h0]
set_option maxRecDepth 100000 in
theorem mc_idiv {l : Launch} {G : ax_T} {mi : ax_MI} {d : Nat} {Q : Option Value → ax_H → Nat → Prop} {pc pc' len : Nat} {lv : List (Nat × Value)} {st : List Value} {h : ax_H} {n : Nat} (hmi : mi ∈ mt_prog) {pe : ax_PE} {hs : List Nat} {x y : Int32} (ha : ax_at mi.2.2.2.2.2.2.2.2 pc = some (pc, .idiv, len, pe, hs)) (hy : y.toInt ≠ 0) (hp : pc + 1 = pc') (hR : mc_R l G mi d Q (pc', lv, .int (x / y) :: st, h, n, 0, 0)) : mc_R l G mi d Q (pc, lv, .int y :: .int x :: st, h, n, 0, 0) := by
  subst hp
  refine mc_stp hmi ha ?_ hR
  have : decide (y = 0) = false := decide_eq_false (fun e => hy (by rw [e]; rfl))
  simp only [ax_step, ax_s_div, this, cond_false]
/-- what stands among the first m -/
def el (A : Int → Int) (m : Nat) (v : Int) : Prop := ∃ t : Nat, t < m ∧ A (t : Int) = v
def pt (A : Int → Int) (j W t : Int) : Int := if t = j then W else A t
def so (A : Int → Int) (m : Nat) : Prop := ∀ a b : Nat, a < b → b < m → A (a : Int) ≤ A (b : Int)
/-- sorted but for a place j, behind which all are no less than W -/
def so_h (A : Int → Int) (i j : Nat) (W : Int) : Prop := (∀ a b : Nat, a < b → b ≤ i → a ≠ j → b ≠ j → A (a : Int) ≤ A (b : Int)) ∧ ∀ b : Nat, j < b → b ≤ i → W ≤ A (b : Int)
theorem pt_1 {A : Int → Int} {j W : Int} : pt A j W j = W := if_pos rfl
theorem pt_0 {A : Int → Int} {j W t : Int} (h : t ≠ j) : pt A j W t = A t := if_neg h
theorem pt_id {A : Int → Int} {j : Int} : pt A j (A j) = A := funext fun t => by
  unfold pt
  split
  · rename_i e; rw [e]
  · rfl
theorem el_sw {A : Int → Int} {m j j2 : Nat} {W : Int} (hj : j < m) (h2 : j2 < j) (v : Int) : el (pt (pt A (j : Int) (A (j2 : Int))) (j2 : Int) W) m v ↔ el (pt A (j : Int) W) m v := by
  constructor
  · rintro ⟨t, ht, e⟩
    by_cases q : t = j2
    · subst q
      rw [pt_1] at e
      exact ⟨j, hj, by rw [pt_1]; exact e⟩
    · rw [pt_0 (by omega)] at e
      by_cases u : t = j
      · subst u
        rw [pt_1] at e
        exact ⟨j2, by omega, by rw [pt_0 (by omega)]; exact e⟩
      · rw [pt_0 (by omega)] at e
        exact ⟨t, ht, by rw [pt_0 (by omega)]; exact e⟩
  · rintro ⟨t, ht, e⟩
    by_cases q : t = j
    · subst q
      rw [pt_1] at e
      exact ⟨j2, by omega, by rw [pt_1]; exact e⟩
    · rw [pt_0 (by omega)] at e
      by_cases u : t = j2
      · subst u
        exact ⟨j, hj, by rw [pt_0 (by omega), pt_1]; exact e⟩
      · exact ⟨t, ht, by rw [pt_0 (by omega), pt_0 (by omega)]; exact e⟩
theorem so_step {A : Int → Int} {i j : Nat} {W : Int} (hj : 1 ≤ j) (hi : j ≤ i) (hW : W ≤ A ((j : Int) - 1)) (s : so_h A i j W) : so_h (pt A (j : Int) (A ((j : Int) - 1))) i (j - 1) W := by
  obtain ⟨s1, s2⟩ := s
  have e1 : ((j - 1 : Nat) : Int) = (j : Int) - 1 := by omega
  constructor
  · intro a b hab hbi ha hb
    by_cases qa : a = j
    · subst qa
      rw [pt_1, pt_0 (by omega), ← e1]
      exact s1 (a - 1) b (by omega) hbi (by omega) (by omega)
    · rw [pt_0 (by omega)]
      by_cases qb : b = j
      · subst qb
        rw [pt_1, ← e1]
        exact s1 a (b - 1) (by omega) (by omega) qa (by omega)
      · rw [pt_0 (by omega)]
        exact s1 a b hab hbi qa qb
  · intro b hb hbi
    by_cases qb : b = j
    · subst qb
      rw [pt_1]
      exact hW
    · rw [pt_0 (by omega)]
      exact s2 b (by omega) hbi
theorem so_end {A : Int → Int} {i j : Nat} {W : Int} (hj : j ≤ i) (hW : j = 0 ∨ A ((j : Int) - 1) ≤ W) (s : so_h A i j W) : so (pt A (j : Int) W) (i + 1) := by
  obtain ⟨s1, s2⟩ := s
  intro a b hab hbi
  by_cases qa : a = j
  · subst qa
    rw [pt_1, pt_0 (by omega)]
    exact s2 b hab (by omega)
  · rw [pt_0 (A := A) (t := (a : Int)) (by omega)]
    by_cases qb : b = j
    · subst qb
      rw [pt_1]
      rcases hW with h0 | h0
      · omega
      · have e1 : ((b - 1 : Nat) : Int) = (b : Int) - 1 := by omega
        by_cases q : a = b - 1
        · rw [q, e1]; exact h0
        · have := s1 a (b - 1) (by omega) (by omega) qa (by omega)
          rw [e1] at this
          exact Int.le_trans this h0
    · rw [pt_0 (by omega)]
      exact s1 a b hab (by omega) qa qb
theorem so_0 {A : Int → Int} {i : Nat} {W : Int} (s : so A i) : so_h A i i W := ⟨fun a b h1 h2 _ h4 => s a b h1 (by omega), fun b h1 h2 => by omega⟩
set_option maxHeartbeats 4000000 in
set_option maxRecDepth 100000 in
theorem sw_in {l : Launch} {G : ax_T} {d : Nat} {h : ax_H} {n : Nat} {w N m : Nat} (hwn : w < n) (hk34 : ab_k w = 34) (w4h : ab_rd h 28 4 = some (.ref w)) (hm : ab_ri h 28 6 = (m : Int)) (hmN : m ≤ N) (hN : N ≤ 41160) {A0 : Int → Int} {Q : Option Value → ax_H → Nat → Prop} {g ii : Nat} (hg : 1 ≤ g) {x i y : Int32} {W : Int} (hx : x.toInt = (g : Int)) (hy : y.toInt = W) (hii : ii < m) (kk : ∀ (h2 : ax_H), mc_HW h2 n → (∀ (k' : Nat) (i' : Int), k' ≠ w → ab_rd h2 k' i' = ab_rd h k' i') → ab_ri h2 w (-1) = (N : Int) → (∀ v, el A0 m v ↔ el (ab_ri h2 w) m v) → (g = 1 → so (ab_ri h2 w) (ii + 1)) → mc_R l G mt_X7_sortWorths d Q (83, [(0, .ref 28), (1, .int x), (2, .int i)], [], h2, n, 0, 0)) : ∀ (c j : Nat) (h' : ax_H) (a : Int32), j ≤ c → a.toInt = (j : Int) → j ≤ ii → mc_HW h' n → (∀ (k' : Nat) (i' : Int), k' ≠ w → ab_rd h' k' i' = ab_rd h k' i') → ab_ri h' w (-1) = (N : Int) → (∀ v, el A0 m v ↔ el (pt (ab_ri h' w) (j : Int) W) m v) → (g = 1 → so_h (ab_ri h' w) ii j W) → mc_R l G mt_X7_sortWorths d Q (31, [(0, .ref 28), (1, .int x), (2, .int i), (3, .int y), (4, .int a)], [], h', n, 0, 0) := by
  have hmi : mt_X7_sortWorths ∈ mt_prog := List.mem_of_getElem? mi_X7_sortWorths
  have hw28 : w ≠ 28 := dy_ne hk34 (by decide)
  intro c
  induction c with
  | zero =>
    intro j h' a hj ha hji H' fr wl hE hS
    have w4 := (fr 28 4 (fun q => hw28 q.symm)).trans w4h
    refine mc_cx hmi 2 (F' := (34, [(0, .ref 28), (1, .int x), (2, .int i), (3, .int y), (4, .int a)], [.int x, .int a], h', n, 0, 0)) (by with_unfolding_all rfl) ?_
    refine mc_ci hmi (c := .lt) (tg := 75) (pc' := 37) rfl rfl rfl ha hx (fun (q101 : (j : Int) < (g : Int)) => ?_) (fun (q101 : (g : Int) ≤ (j : Int)) => ?_)
    · refine mc_cx hmi 1 (F' := (76, [(0, .ref 28), (1, .int x), (2, .int i), (3, .int y), (4, .int a)], [.ref 28], h', n, 0, 0)) (by with_unfolding_all rfl) ?_
      refine mc_getrC hmi H' (k := 28) (c := w) (j := 4) (pc' := 79) rfl rfl rfl w4 rfl ?_
      refine mc_cx hmi 2 (F' := (82, [(0, .ref 28), (1, .int x), (2, .int i), (3, .int y), (4, .int a)], [.int y, .int a, .ref w], h', n, 0, 0)) (by with_unfolding_all rfl) ?_
      refine mc_iwast hmi H' hwn hk34 (i := (j : Int)) (pc' := 83) rfl ha (by omega) (by rw [wl]; omega) rfl (fun h102 H103 w104 => ?_)
      have w4105 : ab_rd h102 28 4 = some (.ref w) := by rw [w104, if_neg (fun q => by omega)]; exact w4
      have wl106 : ab_ri h102 w (-1) = (N : Int) := by rw [mc_ri w104, if_neg (fun q => by omega)]; exact wl
      refine mc_lvs (lv' := [(0, .ref 28), (1, .int x), (2, .int i)]) (by simp) ?_
      have gA : ab_ri h102 w = pt (ab_ri h' w) (j : Int) W := funext fun t => by
        rw [mc_ri w104]
        by_cases q : t = (j : Int)
        · rw [if_pos ⟨rfl, q⟩, q, pt_1]; exact hy
        · rw [if_neg (fun u => q u.2), pt_0 q]
      exact kk h102 H103 (fun k' i' hk => by rw [w104, if_neg (fun q => hk q.1)]; exact fr k' i' hk) wl106 (fun v => by rw [gA]; exact hE v) (fun q => by rw [gA]; exact so_end hji (Or.inl (by omega)) (hS q))
    · exact absurd q101 (by omega)
  | succ c ih =>
    intro j h' a hj ha hji H' fr wl hE hS
    have w4 := (fr 28 4 (fun q => hw28 q.symm)).trans w4h
    refine mc_cx hmi 2 (F' := (34, [(0, .ref 28), (1, .int x), (2, .int i), (3, .int y), (4, .int a)], [.int x, .int a], h', n, 0, 0)) (by with_unfolding_all rfl) ?_
    refine mc_ci hmi (c := .lt) (tg := 75) (pc' := 37) rfl rfl rfl ha hx (fun (q107 : (j : Int) < (g : Int)) => ?_) (fun (q107 : (g : Int) ≤ (j : Int)) => ?_)
    · refine mc_cx hmi 1 (F' := (76, [(0, .ref 28), (1, .int x), (2, .int i), (3, .int y), (4, .int a)], [.ref 28], h', n, 0, 0)) (by with_unfolding_all rfl) ?_
      refine mc_getrC hmi H' (k := 28) (c := w) (j := 4) (pc' := 79) rfl rfl rfl w4 rfl ?_
      refine mc_cx hmi 2 (F' := (82, [(0, .ref 28), (1, .int x), (2, .int i), (3, .int y), (4, .int a)], [.int y, .int a, .ref w], h', n, 0, 0)) (by with_unfolding_all rfl) ?_
      refine mc_iwast hmi H' hwn hk34 (i := (j : Int)) (pc' := 83) rfl ha (by omega) (by rw [wl]; omega) rfl (fun h108 H109 w110 => ?_)
      have w4111 : ab_rd h108 28 4 = some (.ref w) := by rw [w110, if_neg (fun q => by omega)]; exact w4
      have wl112 : ab_ri h108 w (-1) = (N : Int) := by rw [mc_ri w110, if_neg (fun q => by omega)]; exact wl
      refine mc_lvs (lv' := [(0, .ref 28), (1, .int x), (2, .int i)]) (by simp) ?_
      have gA : ab_ri h108 w = pt (ab_ri h' w) (j : Int) W := funext fun t => by
        rw [mc_ri w110]
        by_cases q : t = (j : Int)
        · rw [if_pos ⟨rfl, q⟩, q, pt_1]; exact hy
        · rw [if_neg (fun u => q u.2), pt_0 q]
      exact kk h108 H109 (fun k' i' hk => by rw [w110, if_neg (fun q => hk q.1)]; exact fr k' i' hk) wl112 (fun v => by rw [gA]; exact hE v) (fun q => by rw [gA]; exact so_end hji (Or.inl (by omega)) (hS q))
    · refine mc_cx hmi 1 (F' := (38, [(0, .ref 28), (1, .int x), (2, .int i), (3, .int y), (4, .int a)], [.ref 28], h', n, 0, 0)) (by with_unfolding_all rfl) ?_
      refine mc_getrC hmi H' (k := 28) (c := w) (j := 4) (pc' := 41) rfl rfl rfl w4 rfl ?_
      refine mc_cx hmi 3 (F' := (45, [(0, .ref 28), (1, .int x), (2, .int i), (3, .int y), (4, .int a)], [.int (a - x), .ref w], h', n, 0, 0)) (by with_unfolding_all rfl) ?_
      have e113 : (a - x).toInt = (j : Int) - (g : Int) := mc_sub ha hx (by omega) (by omega)
      refine mc_iwald hmi H' hwn hk34 (i := ((j : Int) - (g : Int))) (pc' := 46) rfl e113 (by omega) (by rw [wl]; omega) rfl (fun y114 e115 => ?_)
      refine mc_cx hmi 1 (F' := (47, [(0, .ref 28), (1, .int x), (2, .int i), (3, .int y), (4, .int a)], [.int y, .int y114], h', n, 0, 0)) (by with_unfolding_all rfl) ?_
      refine mc_ci hmi (c := .le) (tg := 75) (pc' := 50) rfl rfl rfl e115 hy (fun (q116 : ab_ri h' w (((j : Int) - (g : Int))) ≤ W) => ?_) (fun (q116 : W < ab_ri h' w (((j : Int) - (g : Int)))) => ?_)
      · refine mc_cx hmi 1 (F' := (76, [(0, .ref 28), (1, .int x), (2, .int i), (3, .int y), (4, .int a)], [.ref 28], h', n, 0, 0)) (by with_unfolding_all rfl) ?_
        refine mc_getrC hmi H' (k := 28) (c := w) (j := 4) (pc' := 79) rfl rfl rfl w4 rfl ?_
        refine mc_cx hmi 2 (F' := (82, [(0, .ref 28), (1, .int x), (2, .int i), (3, .int y), (4, .int a)], [.int y, .int a, .ref w], h', n, 0, 0)) (by with_unfolding_all rfl) ?_
        refine mc_iwast hmi H' hwn hk34 (i := (j : Int)) (pc' := 83) rfl ha (by omega) (by rw [wl]; omega) rfl (fun h117 H118 w119 => ?_)
        have w4120 : ab_rd h117 28 4 = some (.ref w) := by rw [w119, if_neg (fun q => by omega)]; exact w4
        have wl121 : ab_ri h117 w (-1) = (N : Int) := by rw [mc_ri w119, if_neg (fun q => by omega)]; exact wl
        refine mc_lvs (lv' := [(0, .ref 28), (1, .int x), (2, .int i)]) (by simp) ?_
        have gA : ab_ri h117 w = pt (ab_ri h' w) (j : Int) W := funext fun t => by
          rw [mc_ri w119]
          by_cases q : t = (j : Int)
          · rw [if_pos ⟨rfl, q⟩, q, pt_1]; exact hy
          · rw [if_neg (fun u => q u.2), pt_0 q]
        exact kk h117 H118 (fun k' i' hk => by rw [w119, if_neg (fun q => hk q.1)]; exact fr k' i' hk) wl121 (fun v => by rw [gA]; exact hE v) (fun q => by rw [gA]; exact so_end hji (Or.inr (by subst q; exact q116)) (hS q))
      · refine mc_cx hmi 1 (F' := (51, [(0, .ref 28), (1, .int x), (2, .int i), (3, .int y), (4, .int a)], [.ref 28], h', n, 0, 0)) (by with_unfolding_all rfl) ?_
        refine mc_getrC hmi H' (k := 28) (c := w) (j := 4) (pc' := 54) rfl rfl rfl w4 rfl ?_
        refine mc_cx hmi 2 (F' := (57, [(0, .ref 28), (1, .int x), (2, .int i), (3, .int y), (4, .int a)], [.ref 28, .int a, .ref w], h', n, 0, 0)) (by with_unfolding_all rfl) ?_
        refine mc_getrC hmi H' (k := 28) (c := w) (j := 4) (pc' := 60) rfl rfl rfl w4 rfl ?_
        refine mc_cx hmi 3 (F' := (64, [(0, .ref 28), (1, .int x), (2, .int i), (3, .int y), (4, .int a)], [.int (a - x), .ref w, .int a, .ref w], h', n, 0, 0)) (by with_unfolding_all rfl) ?_
        have e122 : (a - x).toInt = (j : Int) - (g : Int) := mc_sub ha hx (by omega) (by omega)
        refine mc_iwald hmi H' hwn hk34 (i := ((j : Int) - (g : Int))) (pc' := 65) rfl e122 (by omega) (by rw [wl]; omega) rfl (fun y123 e124 => ?_)
        refine mc_iwast hmi H' hwn hk34 (i := (j : Int)) (pc' := 66) rfl ha (by omega) (by rw [wl]; omega) rfl (fun h125 H126 w127 => ?_)
        have w4128 : ab_rd h125 28 4 = some (.ref w) := by rw [w127, if_neg (fun q => by omega)]; exact w4
        have wl129 : ab_ri h125 w (-1) = (N : Int) := by rw [mc_ri w127, if_neg (fun q => by omega)]; exact wl
        refine mc_cx hmi 5 (F' := (31, [(4, .int (a - x)), (0, .ref 28), (1, .int x), (2, .int i), (3, .int y)], [], h125, n, 0, 0)) (by with_unfolding_all rfl) ?_
        have e130 : (a - x).toInt = (j : Int) - (g : Int) := mc_sub ha hx (by omega) (by omega)
        refine mc_lvs (lv' := [(0, .ref 28), (1, .int x), (2, .int i), (3, .int y), (4, .int (a - x))]) (by simp) ?_
        obtain ⟨j2, hj2⟩ : ∃ j2 : Nat, (j2 : Int) = (j : Int) - (g : Int) := ⟨j - g, by omega⟩
        have gA : ab_ri h125 w = pt (ab_ri h' w) (j : Int) (ab_ri h' w (j2 : Int)) := funext fun t => by
          rw [mc_ri w127]
          by_cases q : t = (j : Int)
          · rw [if_pos ⟨rfl, q⟩, q, pt_1, hj2]; exact e124
          · rw [if_neg (fun u => q u.2), pt_0 q]
        refine ih j2 h125 (a - x) (by omega) (by rw [e130]; omega) (by omega) H126 (fun k' i' hk => by rw [w127, if_neg (fun q => hk q.1)]; exact fr k' i' hk) wl129 (fun v => ?_) (fun q => ?_)
        · rw [gA, el_sw (by omega) (by omega)]; exact hE v
        · have ej : j2 = j - 1 := by omega
          have ej2 : (j2 : Int) = (j : Int) - 1 := by omega
          rw [gA, ej2, ej]
          refine so_step (by omega) hji (Int.le_of_lt ?_) (hS q)
          rw [← ej2, hj2]
          exact q116
set_option maxHeartbeats 4000000 in
set_option maxRecDepth 100000 in
theorem sw_mid {l : Launch} {G : ax_T} {d : Nat} {h : ax_H} {n : Nat} {w N m : Nat} (hwn : w < n) (hk34 : ab_k w = 34) (w4h : ab_rd h 28 4 = some (.ref w)) (hm : ab_ri h 28 6 = (m : Int)) (hmN : m ≤ N) (hN : N ≤ 41160) {A0 : Int → Int} {Q : Option Value → ax_H → Nat → Prop} {g : Nat} (hg : 1 ≤ g) (hgm : g ≤ m) {x : Int32} (hx : x.toInt = (g : Int)) (kk : ∀ (h2 : ax_H), mc_HW h2 n → (∀ (k' : Nat) (i' : Int), k' ≠ w → ab_rd h2 k' i' = ab_rd h k' i') → ab_ri h2 w (-1) = (N : Int) → (∀ v, el A0 m v ↔ el (ab_ri h2 w) m v) → (g = 1 → so (ab_ri h2 w) m) → mc_R l G mt_X7_sortWorths d Q (89, [(0, .ref 28), (1, .int x)], [], h2, n, 0, 0)) : ∀ (c ii : Nat) (h' : ax_H) (i : Int32), ii + c = m → i.toInt = (ii : Int) → g ≤ ii → mc_HW h' n → (∀ (k' : Nat) (i' : Int), k' ≠ w → ab_rd h' k' i' = ab_rd h k' i') → ab_ri h' w (-1) = (N : Int) → (∀ v, el A0 m v ↔ el (ab_ri h' w) m v) → (g = 1 → so (ab_ri h' w) ii) → mc_R l G mt_X7_sortWorths d Q (13, [(0, .ref 28), (1, .int x), (2, .int i)], [], h', n, 0, 0) := by
  have hmi : mt_X7_sortWorths ∈ mt_prog := List.mem_of_getElem? mi_X7_sortWorths
  have hw28 : w ≠ 28 := dy_ne hk34 (by decide)
  intro c
  induction c with
  | zero =>
    intro ii h' i hi0 hi hgi H' fr wl hE hS
    have w4 := (fr 28 4 (fun q => hw28 q.symm)).trans w4h
    have hm' : ab_ri h' 28 6 = (m : Int) := (ab_ri_of (fr 28 6 (fun q => hw28 q.symm))).trans hm
    refine mc_cx hmi 2 (F' := (15, [(0, .ref 28), (1, .int x), (2, .int i)], [.ref 28, .int i], h', n, 0, 0)) (by with_unfolding_all rfl) ?_
    refine mc_geti hmi H' (k := 28) (j := 6) (pc' := 18) rfl rfl rfl rfl (fun y131 (e132 : y131.toInt = ab_ri h' 28 6) r133 r134 => ?_)
    rw [e132] at r133 r134
    rw [hm'] at e132
    refine mc_ci hmi (c := .ge) (tg := 89) (pc' := 21) rfl rfl rfl hi e132 (fun (q135 : (m : Int) ≤ (ii : Int)) => ?_) (fun (q135 : (ii : Int) < (m : Int)) => ?_)
    · refine mc_lvs (lv' := [(0, .ref 28), (1, .int x)]) (by simp) ?_
      obtain rfl : ii = m := by omega
      exact kk h' H' fr wl hE hS
    · exact absurd q135 (by omega)
  | succ c ih =>
    intro ii h' i hi0 hi hgi H' fr wl hE hS
    have w4 := (fr 28 4 (fun q => hw28 q.symm)).trans w4h
    have hm' : ab_ri h' 28 6 = (m : Int) := (ab_ri_of (fr 28 6 (fun q => hw28 q.symm))).trans hm
    refine mc_cx hmi 2 (F' := (15, [(0, .ref 28), (1, .int x), (2, .int i)], [.ref 28, .int i], h', n, 0, 0)) (by with_unfolding_all rfl) ?_
    refine mc_geti hmi H' (k := 28) (j := 6) (pc' := 18) rfl rfl rfl rfl (fun y136 (e137 : y136.toInt = ab_ri h' 28 6) r138 r139 => ?_)
    rw [e137] at r138 r139
    rw [hm'] at e137
    refine mc_ci hmi (c := .ge) (tg := 89) (pc' := 21) rfl rfl rfl hi e137 (fun (q140 : (m : Int) ≤ (ii : Int)) => ?_) (fun (q140 : (ii : Int) < (m : Int)) => ?_)
    · exact absurd q140 (by omega)
    · refine mc_cx hmi 1 (F' := (22, [(0, .ref 28), (1, .int x), (2, .int i)], [.ref 28], h', n, 0, 0)) (by with_unfolding_all rfl) ?_
      refine mc_getrC hmi H' (k := 28) (c := w) (j := 4) (pc' := 25) rfl rfl rfl w4 rfl ?_
      refine mc_cx hmi 1 (F' := (26, [(0, .ref 28), (1, .int x), (2, .int i)], [.int i, .ref w], h', n, 0, 0)) (by with_unfolding_all rfl) ?_
      refine mc_iwald hmi H' hwn hk34 (i := (ii : Int)) (pc' := 27) rfl hi (by omega) (by rw [wl]; omega) rfl (fun y141 e142 => ?_)
      refine mc_cx hmi 3 (F' := (31, [(4, .int i), (3, .int y141), (0, .ref 28), (1, .int x), (2, .int i)], [], h', n, 0, 0)) (by with_unfolding_all rfl) ?_
      refine mc_lvs (lv' := [(0, .ref 28), (1, .int x), (2, .int i), (3, .int y141), (4, .int i)]) (by simp) ?_
      refine sw_in (A0 := A0) hwn hk34 w4h hm hmN hN hg hx e142 (by omega) (fun h2 H2 f2 l2 E2 S2 => ?_) ii ii h' i (Nat.le_refl _) hi (Nat.le_refl _) H' fr wl (fun v => by rw [pt_id]; exact hE v) (fun q => so_0 (hS q))
      refine mc_cx hmi 2 (F' := (13, [(2, .int (i + Int32.ofInt 1)), (0, .ref 28), (1, .int x)], [], h2, n, 0, 0)) (by with_unfolding_all rfl) ?_
      have e143 : (i + Int32.ofInt 1).toInt = (ii : Int) + 1 := mc_add hi (by decide) (by omega) (by omega)
      refine mc_lvs (lv' := [(0, .ref 28), (1, .int x), (2, .int (i + Int32.ofInt 1))]) (by simp) ?_
      exact ih (ii + 1) h2 (i + Int32.ofInt 1) (by omega) (by rw [e143]; omega) (by omega) H2 f2 l2 E2 S2
set_option maxHeartbeats 4000000 in
set_option maxRecDepth 100000 in
theorem sw_out {l : Launch} {G : ax_T} {d : Nat} {h : ax_H} {n : Nat} {w N m : Nat} (hwn : w < n) (hk34 : ab_k w = 34) (w4h : ab_rd h 28 4 = some (.ref w)) (hm : ab_ri h 28 6 = (m : Int)) (hmN : m ≤ N) (hN : N ≤ 41160) {A0 : Int → Int} : ∀ (c g : Nat) (h' : ax_H) (x : Int32), g ≤ c → x.toInt = (g : Int) → g ≤ m → mc_HW h' n → (∀ (k' : Nat) (i' : Int), k' ≠ w → ab_rd h' k' i' = ab_rd h k' i') → ab_ri h' w (-1) = (N : Int) → (∀ v, el A0 m v ↔ el (ab_ri h' w) m v) → (g = 0 → so (ab_ri h' w) m) → mc_R l G mt_X7_sortWorths d (fun r' h' n' => n' = n ∧ r' = none ∧ mc_HW h' n ∧ (∀ (k' : Nat) (i' : Int), k' ≠ w → ab_rd h' k' i' = ab_rd h k' i') ∧ ab_ri h' w (-1) = (N : Int) ∧ (∀ v, el A0 m v ↔ el (ab_ri h' w) m v) ∧ so (ab_ri h' w) m) (7, [(0, .ref 28), (1, .int x)], [], h', n, 0, 0) := by
  have hmi : mt_X7_sortWorths ∈ mt_prog := List.mem_of_getElem? mi_X7_sortWorths
  intro c
  induction c with
  | zero =>
    intro g h' x hc hx hgm H' fr wl hE hS
    refine mc_cx hmi 1 (F' := (8, [(0, .ref 28), (1, .int x)], [.int x], h', n, 0, 0)) (by with_unfolding_all rfl) ?_
    refine mc_cz hmi (c := .le) (tg := 96) (pc' := 11) rfl rfl rfl hx (fun (q144 : (g : Int) ≤ 0) => ?_) (fun (q144 : 0 < (g : Int)) => ?_)
    · exact mc_ret hmi rfl rfl rfl ⟨rfl, rfl, H', fr, wl, hE, hS (by omega)⟩
    · exact absurd q144 (by omega)
  | succ c ih =>
    intro g h' x hc hx hgm H' fr wl hE hS
    refine mc_cx hmi 1 (F' := (8, [(0, .ref 28), (1, .int x)], [.int x], h', n, 0, 0)) (by with_unfolding_all rfl) ?_
    refine mc_cz hmi (c := .le) (tg := 96) (pc' := 11) rfl rfl rfl hx (fun (q145 : (g : Int) ≤ 0) => ?_) (fun (q145 : 0 < (g : Int)) => ?_)
    · exact mc_ret hmi rfl rfl rfl ⟨rfl, rfl, H', fr, wl, hE, hS (by omega)⟩
    · refine mc_cx hmi 2 (F' := (13, [(2, .int x), (0, .ref 28), (1, .int x)], [], h', n, 0, 0)) (by with_unfolding_all rfl) ?_
      refine mc_lvs (lv' := [(0, .ref 28), (1, .int x), (2, .int x)]) (by simp) ?_
      refine sw_mid hwn hk34 w4h hm hmN hN (by omega) hgm hx (fun h2 H2 f2 l2 E2 S2 => ?_) (m - g) g h' x (by omega) hx (Nat.le_refl g) H' fr wl hE (fun q a b _ _ => by omega)
      refine mc_cx hmi 2 (F' := (91, [(0, .ref 28), (1, .int x)], [.int (Int32.ofInt 2), .int x], h2, n, 0, 0)) (by with_unfolding_all rfl) ?_
      have e146 : (x / (Int32.ofInt 2)).toInt = (g : Int) / 2 := mc_div hx (by decide) (by omega) (by omega)
      refine mc_idiv hmi (pc' := 92) rfl (show (Int32.ofInt 2).toInt ≠ 0 from by decide) rfl ?_
      refine mc_cx hmi 2 (F' := (7, [(1, .int (x / (Int32.ofInt 2))), (0, .ref 28)], [], h2, n, 0, 0)) (by with_unfolding_all rfl) ?_
      refine mc_lvs (lv' := [(0, .ref 28), (1, .int (x / (Int32.ofInt 2)))]) (by simp) ?_
      exact ih (g / 2) h2 (x / (Int32.ofInt 2)) (by omega) (by rw [e146]; omega) (by omega) H2 f2 l2 E2 (fun q => S2 (by omega))
set_option maxHeartbeats 4000000 in
set_option maxRecDepth 100000 in
theorem sw_ok {l : Launch} {G : ax_T} {d : Nat} {h : ax_H} {n : Nat} (hd : 1 ≤ d) (H : mc_HW h n) {w N m : Nat} (hwn : w < n) (hk34 : ab_k w = 34) (w4h : ab_rd h 28 4 = some (.ref w)) (hm : ab_ri h 28 6 = (m : Int)) (hmN : m ≤ N) (hN : N ≤ 41160) (wl : ab_ri h w (-1) = (N : Int)) {A0 : Int → Int} (hA : A0 = ab_ri h w) : mc_M l G d mt_X7_sortWorths [.ref 28] h n (fun r' h' n' => n' = n ∧ r' = none ∧ mc_HW h' n ∧ (∀ (k' : Nat) (i' : Int), k' ≠ w → ab_rd h' k' i' = ab_rd h k' i') ∧ ab_ri h' w (-1) = (N : Int) ∧ (∀ v, el A0 m v ↔ el (ab_ri h' w) m v) ∧ so (ab_ri h' w) m) := by
  obtain ⟨d, rfl⟩ : ∃ e, d = e + 1 := ⟨d - 1, by omega⟩
  have hmi : mt_X7_sortWorths ∈ mt_prog := List.mem_of_getElem? mi_X7_sortWorths
  refine mc_to hmi rfl ?_
  show mc_R _ _ _ _ _ (0, [(0, .ref 28)], [], h, n, 0, 0)
  refine mc_cx hmi 1 (F' := (1, [(0, .ref 28)], [.ref 28], h, n, 0, 0)) (by with_unfolding_all rfl) ?_
  refine mc_geti hmi H (k := 28) (j := 6) (pc' := 4) rfl rfl rfl rfl (fun y147 (e148 : y147.toInt = ab_ri h 28 6) r149 r150 => ?_)
  rw [e148] at r149 r150
  rw [hm] at e148
  refine mc_cx hmi 1 (F' := (5, [(0, .ref 28)], [.int (Int32.ofInt 2), .int y147], h, n, 0, 0)) (by with_unfolding_all rfl) ?_
  have e151 : (y147 / (Int32.ofInt 2)).toInt = (m : Int) / 2 := mc_div e148 (by decide) (by omega) (by omega)
  refine mc_idiv hmi (pc' := 6) rfl (show (Int32.ofInt 2).toInt ≠ 0 from by decide) rfl ?_
  refine mc_cx hmi 1 (F' := (7, [(1, .int (y147 / (Int32.ofInt 2))), (0, .ref 28)], [], h, n, 0, 0)) (by with_unfolding_all rfl) ?_
  refine mc_lvs (lv' := [(0, .ref 28), (1, .int (y147 / (Int32.ofInt 2)))]) (by simp) ?_
  exact sw_out hwn hk34 w4h hm hmN hN (m / 2) (m / 2) h _ (Nat.le_refl _) (by rw [e151]; omega) (by omega) H (fun _ _ _ => rfl) wl (fun v => by rw [hA]) (fun q a b _ _ => by omega)
/-- u different ones kept of the first i; those from i on as they were -/
def dl (A B : Int → Int) (u i : Nat) : Prop := u ≤ i ∧ (u = 0 → i = 0) ∧ (∀ a b : Nat, a < b → b < u → B (a : Int) < B (b : Int)) ∧ (∀ v, el A i v ↔ el B u v) ∧ (∀ t : Nat, i ≤ t → B (t : Int) = A (t : Int)) ∧ (1 ≤ u → B ((u : Int) - 1) = A ((i : Int) - 1))
theorem el_s {A : Int → Int} {i : Nat} (v : Int) : el A (i + 1) v ↔ el A i v ∨ v = A (i : Int) := by
  constructor
  · rintro ⟨t, ht, e⟩
    by_cases q : t = i
    · subst q; exact Or.inr e.symm
    · exact Or.inl ⟨t, by omega, e⟩
  · rintro (⟨t, ht, e⟩ | e)
    · exact ⟨t, by omega, e⟩
    · exact ⟨i, by omega, e.symm⟩
theorem dl_skip {A B : Int → Int} {u i : Nat} (hu : 1 ≤ u) (e : A (i : Int) = B ((u : Int) - 1)) (s : dl A B u i) : dl A B u (i + 1) := by
  obtain ⟨s1, s2, s3, s4, s5, s6⟩ := s
  refine ⟨by omega, by omega, s3, fun v => ?_, fun t ht => s5 t (by omega), fun _ => ?_⟩
  · rw [el_s, s4]
    refine ⟨fun z => z.elim id (fun q => ⟨u - 1, by omega, by rw [q, e, show ((u - 1 : Nat) : Int) = (u : Int) - 1 by omega]⟩), Or.inl⟩
  · rw [← e, show ((i + 1 : Nat) : Int) - 1 = (i : Int) by omega]
theorem dl_put {A B : Int → Int} {u i m : Nat} (hs : so A m) (hi : i < m) (e : u = 0 ∨ A (i : Int) ≠ B ((u : Int) - 1)) (s : dl A B u i) : dl A (pt B (u : Int) (A (i : Int))) (u + 1) (i + 1) := by
  obtain ⟨s1, s2, s3, s4, s5, s6⟩ := s
  refine ⟨by omega, by omega, fun a b hab hb => ?_, fun v => ?_, fun t ht => ?_, fun _ => ?_⟩
  · rw [pt_0 (A := B) (t := (a : Int)) (by omega)]
    by_cases q : b = u
    · subst q
      rw [pt_1]
      rcases e with e | e
      · omega
      · have h6 := s6 (by omega)
        have h7 := hs (i - 1) i (by omega) hi
        rw [show ((i - 1 : Nat) : Int) = (i : Int) - 1 by omega] at h7
        have h8 : B ((b : Int) - 1) < A (i : Int) := by omega
        by_cases qa : a = b - 1
        · rw [qa, show ((b - 1 : Nat) : Int) = (b : Int) - 1 by omega]; exact h8
        · have h9 := s3 a (b - 1) (by omega) (by omega)
          rw [show ((b - 1 : Nat) : Int) = (b : Int) - 1 by omega] at h9
          omega
    · rw [pt_0 (by omega)]
      exact s3 a b hab (by omega)
  · rw [el_s, s4, el_s, pt_1]
    refine or_congr ⟨fun ⟨t, ht, q⟩ => ⟨t, ht, by rw [pt_0 (by omega)]; exact q⟩, fun ⟨t, ht, q⟩ => ⟨t, ht, by rw [pt_0 (by omega)] at q; exact q⟩⟩ Iff.rfl
  · rw [pt_0 (by omega)]
    exact s5 t (by omega)
  · rw [show ((u + 1 : Nat) : Int) - 1 = (u : Int) by omega, pt_1, show ((i + 1 : Nat) : Int) - 1 = (i : Int) by omega]
set_option maxHeartbeats 4000000 in
set_option maxRecDepth 100000 in
theorem dl_loop {l : Launch} {G : ax_T} {d : Nat} {h : ax_H} {n : Nat} {w N m : Nat} (hwn : w < n) (hk34 : ab_k w = 34) (w4h : ab_rd h 28 4 = some (.ref w)) (hm : ab_ri h 28 6 = (m : Int)) (hmN : m ≤ N) (hN : N ≤ 41160) {A : Int → Int} (hso : so A m) : ∀ (c ii u : Nat) (h' : ax_H) (i : Int32), ii + c = m → i.toInt = (ii : Int) → mc_HW h' n → (∀ (k' : Nat) (i' : Int), k' ≠ w → (k' = 28 → i' ≠ 7) → ab_rd h' k' i' = ab_rd h k' i') → ab_ri h' w (-1) = (N : Int) → ab_ri h' 28 7 = (u : Int) → dl A (ab_ri h' w) u ii → mc_R l G mt_X7_dropLikeWorths d (fun r' h' n' => n' = n ∧ r' = none ∧ mc_HW h' n ∧ (∀ (k' : Nat) (i' : Int), k' ≠ w → (k' = 28 → i' ≠ 7) → ab_rd h' k' i' = ab_rd h k' i') ∧ ab_ri h' w (-1) = (N : Int) ∧ ∃ u : Nat, ab_ri h' 28 7 = (u : Int) ∧ dl A (ab_ri h' w) u m) (7, [(0, .ref 28), (1, .int i)], [], h', n, 0, 0) := by
  have hmi : mt_X7_dropLikeWorths ∈ mt_prog := List.mem_of_getElem? mi_X7_dropLikeWorths
  have hw28 : w ≠ 28 := dy_ne hk34 (by decide)
  intro c
  induction c with
  | zero =>
    intro ii u h' i hi0 hi H' fr wl hu S
    have w4 := (fr 28 4 (fun q => hw28 q.symm) (by decide)).trans w4h
    have hm' : ab_ri h' 28 6 = (m : Int) := (ab_ri_of (fr 28 6 (fun q => hw28 q.symm) (by decide))).trans hm
    have hui := S.1
    have S5 := S.2.2.2.2.1
    refine mc_cx hmi 2 (F' := (9, [(0, .ref 28), (1, .int i)], [.ref 28, .int i], h', n, 0, 0)) (by with_unfolding_all rfl) ?_
    refine mc_geti hmi H' (k := 28) (j := 6) (pc' := 12) rfl rfl rfl rfl (fun y152 (e153 : y152.toInt = ab_ri h' 28 6) r154 r155 => ?_)
    rw [e153] at r154 r155
    rw [hm'] at e153
    refine mc_ci hmi (c := .ge) (tg := 73) (pc' := 15) rfl rfl rfl hi e153 (fun (q156 : (m : Int) ≤ (ii : Int)) => ?_) (fun (q156 : (ii : Int) < (m : Int)) => ?_)
    · obtain rfl : ii = m := by omega
      exact mc_ret hmi rfl rfl rfl ⟨rfl, rfl, H', fr, wl, u, hu, S⟩
    · exact absurd q156 (by omega)
  | succ c ih =>
    intro ii u h' i hi0 hi H' fr wl hu S
    have w4 := (fr 28 4 (fun q => hw28 q.symm) (by decide)).trans w4h
    have hm' : ab_ri h' 28 6 = (m : Int) := (ab_ri_of (fr 28 6 (fun q => hw28 q.symm) (by decide))).trans hm
    have hui := S.1
    have S5 := S.2.2.2.2.1
    refine mc_cx hmi 2 (F' := (9, [(0, .ref 28), (1, .int i)], [.ref 28, .int i], h', n, 0, 0)) (by with_unfolding_all rfl) ?_
    refine mc_geti hmi H' (k := 28) (j := 6) (pc' := 12) rfl rfl rfl rfl (fun y157 (e158 : y157.toInt = ab_ri h' 28 6) r159 r160 => ?_)
    rw [e158] at r159 r160
    rw [hm'] at e158
    refine mc_ci hmi (c := .ge) (tg := 73) (pc' := 15) rfl rfl rfl hi e158 (fun (q161 : (m : Int) ≤ (ii : Int)) => ?_) (fun (q161 : (ii : Int) < (m : Int)) => ?_)
    · exact absurd q161 (by omega)
    · refine mc_cx hmi 1 (F' := (16, [(0, .ref 28), (1, .int i)], [.ref 28], h', n, 0, 0)) (by with_unfolding_all rfl) ?_
      refine mc_geti hmi H' (k := 28) (j := 7) (pc' := 19) rfl rfl rfl rfl (fun y162 (e163 : y162.toInt = ab_ri h' 28 7) r164 r165 => ?_)
      rw [e163] at r164 r165
      rw [hu] at e163
      refine mc_cz hmi (c := .eq) (tg := 42) (pc' := 22) rfl rfl rfl e163 (fun (q166 : (u : Int) = 0) => ?_) (fun (q166 : (u : Int) ≠ 0) => ?_)
      · refine mc_cx hmi 1 (F' := (43, [(0, .ref 28), (1, .int i)], [.ref 28], h', n, 0, 0)) (by with_unfolding_all rfl) ?_
        refine mc_getrC hmi H' (k := 28) (c := w) (j := 4) (pc' := 46) rfl rfl rfl w4 rfl ?_
        refine mc_cx hmi 1 (F' := (47, [(0, .ref 28), (1, .int i)], [.ref 28, .ref w], h', n, 0, 0)) (by with_unfolding_all rfl) ?_
        refine mc_geti hmi H' (k := 28) (j := 7) (pc' := 50) rfl rfl rfl rfl (fun y167 (e168 : y167.toInt = ab_ri h' 28 7) r169 r170 => ?_)
        rw [e168] at r169 r170
        rw [hu] at e168
        refine mc_cx hmi 1 (F' := (51, [(0, .ref 28), (1, .int i)], [.ref 28, .int y167, .ref w], h', n, 0, 0)) (by with_unfolding_all rfl) ?_
        refine mc_getrC hmi H' (k := 28) (c := w) (j := 4) (pc' := 54) rfl rfl rfl w4 rfl ?_
        refine mc_cx hmi 1 (F' := (55, [(0, .ref 28), (1, .int i)], [.int i, .ref w, .int y167, .ref w], h', n, 0, 0)) (by with_unfolding_all rfl) ?_
        refine mc_iwald hmi H' hwn hk34 (i := (ii : Int)) (pc' := 56) rfl hi (by omega) (by rw [wl]; omega) rfl (fun y171 e172 => ?_)
        rw [S5 ii (Nat.le_refl _)] at e172
        refine mc_iwast hmi H' hwn hk34 (i := (u : Int)) (pc' := 57) rfl e168 (by omega) (by rw [wl]; omega) rfl (fun h173 H174 w175 => ?_)
        have w4176 : ab_rd h173 28 4 = some (.ref w) := by rw [w175, if_neg (fun q => by omega)]; exact w4
        have wl177 : ab_ri h173 w (-1) = (N : Int) := by rw [mc_ri w175, if_neg (fun q => by omega)]; exact wl
        have gA : ab_ri h173 w = pt (ab_ri h' w) (u : Int) (A (ii : Int)) := funext fun t => by
          rw [mc_ri w175]
          by_cases q : t = (u : Int)
          · rw [if_pos ⟨rfl, q⟩, q, pt_1]; exact e172
          · rw [if_neg (fun u => q u.2), pt_0 q]
        have hu2 : ab_ri h173 28 7 = (u : Int) := by rw [mc_ri w175, if_neg (fun q => hw28 q.1.symm)]; exact hu
        refine mc_cx hmi 2 (F' := (59, [(0, .ref 28), (1, .int i)], [.ref 28, .ref 28], h173, n, 0, 0)) (by with_unfolding_all rfl) ?_
        refine mc_geti hmi H174 (k := 28) (j := 7) (pc' := 62) rfl rfl rfl rfl (fun y178 (e179 : y178.toInt = ab_ri h173 28 7) r180 r181 => ?_)
        rw [e179] at r180 r181
        rw [hu2] at e179
        refine mc_cx hmi 2 (F' := (64, [(0, .ref 28), (1, .int i)], [.int (y178 + (Int32.ofInt 1)), .ref 28], h173, n, 0, 0)) (by with_unfolding_all rfl) ?_
        have e182 : (y178 + (Int32.ofInt 1)).toInt = (u : Int) + 1 := mc_add e179 (by decide) (by omega) (by omega)
        refine mc_puti hmi H174 (k := 28) (j := 7) (pc' := 67) rfl rfl rfl rfl (by rw [e182]; omega) (by rw [e182]; omega) rfl (fun h183 H184 w185 => ?_)
        have w4186 : ab_rd h183 28 4 = some (.ref w) := by rw [w185, if_neg (fun q => by omega)]; exact w4176
        have wl187 : ab_ri h183 w (-1) = (N : Int) := by rw [mc_ri w185, if_neg (fun q => by omega)]; exact wl177
        have gB : ab_ri h183 w = ab_ri h173 w := funext fun t => by rw [mc_ri w185, if_neg (fun q => hw28 q.1)]
        refine mc_cx hmi 2 (F' := (7, [(1, .int (i + Int32.ofInt 1)), (0, .ref 28)], [], h183, n, 0, 0)) (by with_unfolding_all rfl) ?_
        have e188 : (i + Int32.ofInt 1).toInt = (ii : Int) + 1 := mc_add hi (by decide) (by omega) (by omega)
        refine mc_lvs (lv' := [(0, .ref 28), (1, .int (i + Int32.ofInt 1))]) (by simp) ?_
        refine ih (ii + 1) (u + 1) h183 (i + Int32.ofInt 1) (by omega) (by rw [e188]; omega) H184 (fun k' i' p1 p2 => ?_) wl187 ?_ ?_
        · rw [w185, if_neg (fun q => p2 q.1 q.2), w175, if_neg (fun q => p1 q.1)]; exact fr k' i' p1 p2
        · rw [mc_ri w185, if_pos ⟨rfl, rfl⟩, e182]; omega
        · rw [gB, gA]; exact dl_put hso (by omega) (Or.inl (by omega)) S
      · refine mc_cx hmi 1 (F' := (23, [(0, .ref 28), (1, .int i)], [.ref 28], h', n, 0, 0)) (by with_unfolding_all rfl) ?_
        refine mc_getrC hmi H' (k := 28) (c := w) (j := 4) (pc' := 26) rfl rfl rfl w4 rfl ?_
        refine mc_cx hmi 1 (F' := (27, [(0, .ref 28), (1, .int i)], [.int i, .ref w], h', n, 0, 0)) (by with_unfolding_all rfl) ?_
        refine mc_iwald hmi H' hwn hk34 (i := (ii : Int)) (pc' := 28) rfl hi (by omega) (by rw [wl]; omega) rfl (fun y189 e190 => ?_)
        rw [S5 ii (Nat.le_refl _)] at e190
        refine mc_cx hmi 1 (F' := (29, [(0, .ref 28), (1, .int i)], [.ref 28, .int y189], h', n, 0, 0)) (by with_unfolding_all rfl) ?_
        refine mc_getrC hmi H' (k := 28) (c := w) (j := 4) (pc' := 32) rfl rfl rfl w4 rfl ?_
        refine mc_cx hmi 1 (F' := (33, [(0, .ref 28), (1, .int i)], [.ref 28, .ref w, .int y189], h', n, 0, 0)) (by with_unfolding_all rfl) ?_
        refine mc_geti hmi H' (k := 28) (j := 7) (pc' := 36) rfl rfl rfl rfl (fun y191 (e192 : y191.toInt = ab_ri h' 28 7) r193 r194 => ?_)
        rw [e192] at r193 r194
        rw [hu] at e192
        refine mc_cx hmi 2 (F' := (38, [(0, .ref 28), (1, .int i)], [.int (y191 - (Int32.ofInt 1)), .ref w, .int y189], h', n, 0, 0)) (by with_unfolding_all rfl) ?_
        have e195 : (y191 - (Int32.ofInt 1)).toInt = (u : Int) - 1 := mc_sub e192 (by decide) (by omega) (by omega)
        refine mc_iwald hmi H' hwn hk34 (i := ((u : Int) - 1)) (pc' := 39) rfl e195 (by omega) (by rw [wl]; omega) rfl (fun y196 e197 => ?_)
        refine mc_ci hmi (c := .eq) (tg := 67) (pc' := 42) rfl rfl rfl e190 e197 (fun (q198 : A (ii : Int) = ab_ri h' w (((u : Int) - 1))) => ?_) (fun (q198 : A (ii : Int) ≠ ab_ri h' w (((u : Int) - 1))) => ?_)
        · refine mc_cx hmi 2 (F' := (7, [(1, .int (i + Int32.ofInt 1)), (0, .ref 28)], [], h', n, 0, 0)) (by with_unfolding_all rfl) ?_
          have e199 : (i + Int32.ofInt 1).toInt = (ii : Int) + 1 := mc_add hi (by decide) (by omega) (by omega)
          refine mc_lvs (lv' := [(0, .ref 28), (1, .int (i + Int32.ofInt 1))]) (by simp) ?_
          exact ih (ii + 1) u h' (i + Int32.ofInt 1) (by omega) (by rw [e199]; omega) H' fr wl hu (dl_skip (by omega) q198 S)
        · refine mc_cx hmi 1 (F' := (43, [(0, .ref 28), (1, .int i)], [.ref 28], h', n, 0, 0)) (by with_unfolding_all rfl) ?_
          refine mc_getrC hmi H' (k := 28) (c := w) (j := 4) (pc' := 46) rfl rfl rfl w4 rfl ?_
          refine mc_cx hmi 1 (F' := (47, [(0, .ref 28), (1, .int i)], [.ref 28, .ref w], h', n, 0, 0)) (by with_unfolding_all rfl) ?_
          refine mc_geti hmi H' (k := 28) (j := 7) (pc' := 50) rfl rfl rfl rfl (fun y200 (e201 : y200.toInt = ab_ri h' 28 7) r202 r203 => ?_)
          rw [e201] at r202 r203
          rw [hu] at e201
          refine mc_cx hmi 1 (F' := (51, [(0, .ref 28), (1, .int i)], [.ref 28, .int y200, .ref w], h', n, 0, 0)) (by with_unfolding_all rfl) ?_
          refine mc_getrC hmi H' (k := 28) (c := w) (j := 4) (pc' := 54) rfl rfl rfl w4 rfl ?_
          refine mc_cx hmi 1 (F' := (55, [(0, .ref 28), (1, .int i)], [.int i, .ref w, .int y200, .ref w], h', n, 0, 0)) (by with_unfolding_all rfl) ?_
          refine mc_iwald hmi H' hwn hk34 (i := (ii : Int)) (pc' := 56) rfl hi (by omega) (by rw [wl]; omega) rfl (fun y204 e205 => ?_)
          rw [S5 ii (Nat.le_refl _)] at e205
          refine mc_iwast hmi H' hwn hk34 (i := (u : Int)) (pc' := 57) rfl e201 (by omega) (by rw [wl]; omega) rfl (fun h206 H207 w208 => ?_)
          have w4209 : ab_rd h206 28 4 = some (.ref w) := by rw [w208, if_neg (fun q => by omega)]; exact w4
          have wl210 : ab_ri h206 w (-1) = (N : Int) := by rw [mc_ri w208, if_neg (fun q => by omega)]; exact wl
          have gA : ab_ri h206 w = pt (ab_ri h' w) (u : Int) (A (ii : Int)) := funext fun t => by
            rw [mc_ri w208]
            by_cases q : t = (u : Int)
            · rw [if_pos ⟨rfl, q⟩, q, pt_1]; exact e205
            · rw [if_neg (fun u => q u.2), pt_0 q]
          have hu2 : ab_ri h206 28 7 = (u : Int) := by rw [mc_ri w208, if_neg (fun q => hw28 q.1.symm)]; exact hu
          refine mc_cx hmi 2 (F' := (59, [(0, .ref 28), (1, .int i)], [.ref 28, .ref 28], h206, n, 0, 0)) (by with_unfolding_all rfl) ?_
          refine mc_geti hmi H207 (k := 28) (j := 7) (pc' := 62) rfl rfl rfl rfl (fun y211 (e212 : y211.toInt = ab_ri h206 28 7) r213 r214 => ?_)
          rw [e212] at r213 r214
          rw [hu2] at e212
          refine mc_cx hmi 2 (F' := (64, [(0, .ref 28), (1, .int i)], [.int (y211 + (Int32.ofInt 1)), .ref 28], h206, n, 0, 0)) (by with_unfolding_all rfl) ?_
          have e215 : (y211 + (Int32.ofInt 1)).toInt = (u : Int) + 1 := mc_add e212 (by decide) (by omega) (by omega)
          refine mc_puti hmi H207 (k := 28) (j := 7) (pc' := 67) rfl rfl rfl rfl (by rw [e215]; omega) (by rw [e215]; omega) rfl (fun h216 H217 w218 => ?_)
          have w4219 : ab_rd h216 28 4 = some (.ref w) := by rw [w218, if_neg (fun q => by omega)]; exact w4209
          have wl220 : ab_ri h216 w (-1) = (N : Int) := by rw [mc_ri w218, if_neg (fun q => by omega)]; exact wl210
          have gB : ab_ri h216 w = ab_ri h206 w := funext fun t => by rw [mc_ri w218, if_neg (fun q => hw28 q.1)]
          refine mc_cx hmi 2 (F' := (7, [(1, .int (i + Int32.ofInt 1)), (0, .ref 28)], [], h216, n, 0, 0)) (by with_unfolding_all rfl) ?_
          have e221 : (i + Int32.ofInt 1).toInt = (ii : Int) + 1 := mc_add hi (by decide) (by omega) (by omega)
          refine mc_lvs (lv' := [(0, .ref 28), (1, .int (i + Int32.ofInt 1))]) (by simp) ?_
          refine ih (ii + 1) (u + 1) h216 (i + Int32.ofInt 1) (by omega) (by rw [e221]; omega) H217 (fun k' i' p1 p2 => ?_) wl220 ?_ ?_
          · rw [w218, if_neg (fun q => p2 q.1 q.2), w208, if_neg (fun q => p1 q.1)]; exact fr k' i' p1 p2
          · rw [mc_ri w218, if_pos ⟨rfl, rfl⟩, e215]; omega
          · rw [gB, gA]; exact dl_put hso (by omega) (Or.inr q198) S
set_option maxHeartbeats 4000000 in
set_option maxRecDepth 100000 in
theorem dl_ok {l : Launch} {G : ax_T} {d : Nat} {h : ax_H} {n : Nat} (hd : 1 ≤ d) (H : mc_HW h n) {w N m : Nat} (hwn : w < n) (hk34 : ab_k w = 34) (w4h : ab_rd h 28 4 = some (.ref w)) (hm : ab_ri h 28 6 = (m : Int)) (hmN : m ≤ N) (hN : N ≤ 41160) (wl : ab_ri h w (-1) = (N : Int)) {A : Int → Int} (hA : A = ab_ri h w) (hso : so A m) : mc_M l G d mt_X7_dropLikeWorths [.ref 28] h n (fun r' h' n' => n' = n ∧ r' = none ∧ mc_HW h' n ∧ (∀ (k' : Nat) (i' : Int), k' ≠ w → (k' = 28 → i' ≠ 7) → ab_rd h' k' i' = ab_rd h k' i') ∧ ab_ri h' w (-1) = (N : Int) ∧ ∃ u : Nat, ab_ri h' 28 7 = (u : Int) ∧ dl A (ab_ri h' w) u m) := by
  obtain ⟨d, rfl⟩ : ∃ e, d = e + 1 := ⟨d - 1, by omega⟩
  have hmi : mt_X7_dropLikeWorths ∈ mt_prog := List.mem_of_getElem? mi_X7_dropLikeWorths
  have hw28 : w ≠ 28 := dy_ne hk34 (by decide)
  have w4 := w4h
  refine mc_to hmi rfl ?_
  show mc_R _ _ _ _ _ (0, [(0, .ref 28)], [], h, n, 0, 0)
  refine mc_cx hmi 2 (F' := (2, [(0, .ref 28)], [.int (Int32.ofInt 0), .ref 28], h, n, 0, 0)) (by with_unfolding_all rfl) ?_
  refine mc_puti hmi H (k := 28) (j := 7) (pc' := 5) rfl rfl rfl rfl (by rw [show ((Int32.ofInt 0)).toInt = 0 from by decide]; omega) (by rw [show ((Int32.ofInt 0)).toInt = 0 from by decide]; omega) rfl (fun h222 H223 w224 => ?_)
  have w4225 : ab_rd h222 28 4 = some (.ref w) := by rw [w224, if_neg (fun q => by omega)]; exact w4
  have wl226 : ab_ri h222 w (-1) = (N : Int) := by rw [mc_ri w224, if_neg (fun q => by omega)]; exact wl
  refine mc_cx hmi 2 (F' := (7, [(1, .int (Int32.ofInt 0)), (0, .ref 28)], [], h222, n, 0, 0)) (by with_unfolding_all rfl) ?_
  refine mc_lvs (lv' := [(0, .ref 28), (1, .int (Int32.ofInt 0))]) (by simp) ?_
  have gB : ab_ri h222 w = A := by rw [hA]; exact funext fun t => by rw [mc_ri w224, if_neg (fun q => hw28 q.1)]
  exact dl_loop hwn hk34 w4h hm hmN hN hso m 0 0 h222 _ (Nat.zero_add m) (by decide) H223 (fun k' i' p1 p2 => by rw [w224, if_neg (fun q => p2 q.1 q.2)]) wl226 (by rw [mc_ri w224, if_pos ⟨rfl, rfl⟩]; rfl) (by rw [gB]; exact ⟨Nat.le_refl 0, fun _ => rfl, fun a b _ q => absurd q (Nat.not_lt_zero b), fun v => Iff.rfl, fun _ _ => rfl, fun q => absurd q (by decide)⟩)
end
section
/-! ===== all fillings of the stone by a custom, in the class (ways printed by wip/v2/mk99g.py) ===== -/
/-- the class's stone -/
def SL (h : ax_H) (p R : Nat) (sg : Nat → Nat) (b : Prop) : Prop := ab_ri h 28 1 = (p : Int) ∧ ab_ri h 28 2 = (R : Int) ∧ (∀ i : Nat, i < R → ab_ri h 29 (i : Int) = if p ≤ i then 14 else (sg i : Int)) ∧ (R = p ∧ ¬ b ∨ R = p + 1 ∧ b) ∧ p ≤ 20 ∧ ab_gc h 29 p ≤ 3
/-- its worths' array -/
def WA (h : ax_H) (n w N : Nat) : Prop := w < n ∧ ab_k w = 34 ∧ ab_rd h 28 4 = some (.ref w) ∧ ab_ri h w (-1) = (N : Int) ∧ N ≤ 41160 ∧ ab_ri h 28 6 ≤ (N : Int) ∧ ab_ri h 28 7 ≤ (N : Int)
/-- what it knows of all fillings by a custom -/
def CF (h : ax_H) (w p : Nat) (sg : Nat → Nat) (b : Prop) (K : df_K) : Prop := ∃ u : Nat, ab_ri h 28 7 = (u : Int) ∧ (∀ x y : Nat, x < y → y < u → ab_ri h w (x : Int) < ab_ri h w (y : Int)) ∧ (∀ v, fl_W (fl_F K p sg b) v ↔ el (ab_ri h w) u v) ∧ ∀ i : Nat, i < p → cf (fl_T (fl_F K p sg b) i) (ab_ri h 33 (i : Int))
def dw_Kg (cu c0 c1 c2 : Nat) : Prop := ∀ k', k' = cu ∨ k' = c0 ∨ k' = c1 ∨ k' = c2 → k' < 573 ∧ ab_k k' ≠ 34 ∧ k' ≠ 33 ∧ k' ≠ 30 ∧ k' ≠ 31 ∧ k' ≠ 28
def FBF (h h' : ax_H) (n w : Nat) : Prop := ∀ (k' : Nat) (i' : Int), k' < n → k' ≠ w → k' ≠ 33 → k' ≠ 30 → k' ≠ 31 → (k' = 28 → i' ≠ 4 ∧ i' ≠ 6 ∧ i' ≠ 7 ∧ i' ≠ 8) → ab_rd h' k' i' = ab_rd h k' i'
theorem CS_0 {h : ax_H} {w p : Nat} (e1 : ab_ri h 28 6 = 0) (e2 : ∀ t : Nat, t < p → ab_ri h 33 (t : Int) = -1) : CS h w 0 p (fun _ _ => False) :=
  ⟨e1, fun v => ⟨fun ⟨_, _, z, _⟩ => z.elim, fun ⟨_, z, _⟩ => absurd z (Nat.not_lt_zero _)⟩, fun i hi => Or.inr ⟨e2 i hi, Or.inl fun x ⟨_, _, z, _⟩ => z⟩, ⟨fun _ _ _ z => z, fun _ => rfl⟩⟩
theorem fl_E0 {K : df_K} {p : Nat} {sg F : Nat → Nat} {b : Prop} (s : Nat) (g : Nat → Nat) : (False ∨ fl_E K p sg b 0 F s g) ↔ fl_F K p sg b s g :=
  ⟨fun z => z.elim False.elim (fun q => q.1), fun z => Or.inr ⟨z, Nat.zero_le s, fun i hi => absurd hi (Nat.not_lt_zero i)⟩⟩
set_option maxHeartbeats 4000000 in
set_option maxRecDepth 100000 in
theorem fb_lp {l : Launch} {G : ax_T} {d : Nat} {h : ax_H} {n : Nat} (H : mc_HW h n) (hmk : md_ok mt_X7_fillBy 1 41160) {cu p : Nat} {k : Int32} {Q : Option Value → ax_H → Nat → Prop} (hp : ab_ri h 28 1 = (p : Int)) (hp20 : p ≤ 20) (kk : ∀ h2 : ax_H, mc_HW h2 n → (∀ (k' : Nat) (i' : Int), k' ≠ 33 → ab_rd h2 k' i' = ab_rd h k' i') → (∀ t : Nat, t < p → ab_ri h2 33 (t : Int) = -1) → mc_R l G mt_X7_fillBy d Q (46, [(0, .ref 28), (1, .ref cu), (2, .int k)], [], h2, n, 1, 41160)) : ∀ (c j : Nat) (h' : ax_H) (i : Int32), j + c = p → i.toInt = (j : Int) → mc_HW h' n → (∀ (k' : Nat) (i' : Int), k' ≠ 33 → ab_rd h' k' i' = ab_rd h k' i') → (∀ t : Nat, t < j → ab_ri h' 33 (t : Int) = -1) → mc_R l G mt_X7_fillBy d Q (25, [(0, .ref 28), (1, .ref cu), (2, .int k), (3, .int i)], [], h', n, 1, 41160) := by
  intro c
  induction c with
  | zero =>
    intro j h' i hj hi H' fr T
    have hp' : ab_ri h' 28 1 = (p : Int) := (ab_ri_of (fr 28 1 (by decide))).trans hp
    refine md_cx hmk 2 (F' := (27, [(0, .ref 28), (1, .ref cu), (2, .int k), (3, .int i)], [.ref 28, .int i], h', n, 1, 41160)) (by with_unfolding_all rfl) ?_
    refine md_geti hmk H' (k := 28) (j := 1) (pc' := 30) rfl rfl rfl rfl (fun y101 (e102 : y101.toInt = ab_ri h' 28 1) r103 r104 => ?_)
    rw [e102] at r103 r104
    rw [hp'] at e102
    refine md_ci hmk (c := .ge) (tg := 46) (pc' := 33) rfl rfl rfl hi e102 (fun (q105 : (p : Int) ≤ (j : Int)) => ?_) (fun (q105 : (j : Int) < (p : Int)) => ?_)
    · refine md_lvs (lv' := [(0, .ref 28), (1, .ref cu), (2, .int k)]) (by simp) ?_
      obtain rfl : j = p := by omega
      exact kk h' H' fr T
    · exact absurd q105 (by omega)
  | succ c ih =>
    intro j h' i hj hi H' fr T
    have hp' : ab_ri h' 28 1 = (p : Int) := (ab_ri_of (fr 28 1 (by decide))).trans hp
    refine md_cx hmk 2 (F' := (27, [(0, .ref 28), (1, .ref cu), (2, .int k), (3, .int i)], [.ref 28, .int i], h', n, 1, 41160)) (by with_unfolding_all rfl) ?_
    refine md_geti hmk H' (k := 28) (j := 1) (pc' := 30) rfl rfl rfl rfl (fun y106 (e107 : y106.toInt = ab_ri h' 28 1) r108 r109 => ?_)
    rw [e107] at r108 r109
    rw [hp'] at e107
    refine md_ci hmk (c := .ge) (tg := 46) (pc' := 33) rfl rfl rfl hi e107 (fun (q110 : (p : Int) ≤ (j : Int)) => ?_) (fun (q110 : (j : Int) < (p : Int)) => ?_)
    · exact absurd q110 (by omega)
    · refine md_cx hmk 1 (F' := (34, [(0, .ref 28), (1, .ref cu), (2, .int k), (3, .int i)], [.ref 28], h', n, 1, 41160)) (by with_unfolding_all rfl) ?_
      refine md_getr hmk H' (k := 28) (c := 33) (pc' := 37) rfl rfl rfl rfl rfl ?_
      refine md_cx hmk 2 (F' := (39, [(0, .ref 28), (1, .ref cu), (2, .int k), (3, .int i)], [.int (Int32.ofInt (-1)), .int i, .ref 33], h', n, 1, 41160)) (by with_unfolding_all rfl) ?_
      refine md_iast hmk H' (k := 33) (i := (j : Int)) (pc' := 40) rfl rfl rfl hi (by omega) (by omega) (by rw [show ((Int32.ofInt (-1))).toInt = (-1) from by decide]; omega) (by rw [show ((Int32.ofInt (-1))).toInt = (-1) from by decide]; omega) rfl (fun h111 H112 w113 => ?_)
      refine md_cx hmk 2 (F' := (25, [(3, .int (i + Int32.ofInt 1)), (0, .ref 28), (1, .ref cu), (2, .int k)], [], h111, n, 1, 41160)) (by with_unfolding_all rfl) ?_
      have e114 : (i + Int32.ofInt 1).toInt = (j : Int) + 1 := mc_add hi (by decide) (by omega) (by omega)
      refine md_lvs (lv' := [(0, .ref 28), (1, .ref cu), (2, .int k), (3, .int (i + Int32.ofInt 1))]) (by simp) ?_
      refine ih (j + 1) h111 (i + Int32.ofInt 1) (by omega) (by rw [e114]; omega) H112 (fun k' i' hk => by rw [w113, if_neg (fun q => hk q.1)]; exact fr k' i' hk) (fun t ht => ?_)
      rw [mc_ri w113]
      by_cases q : t = j
      · rw [if_pos (And.intro rfl (by omega))]; decide
      · rw [if_neg (fun z => q (by have := z.2; omega))]; exact T t (by omega)
set_option maxHeartbeats 4000000 in
set_option maxRecDepth 100000 in
theorem fb_ok {l : Launch} {G : ax_T} {d : Nat} {h : ax_H} {n : Nat} (hd : 26 ≤ d) (H : mc_HW h n) {w N p R : Nat} {sg : Nat → Nat} {b : Prop} {cu c0 c1 c2 : Nat} {K : df_K} (W : WA h n w N) (S : SL h p R sg b) (hK : dw_K h cu c0 c1 c2 K) (hg : dw_Kg cu c0 c1 c2) {k : Int32} {kk : Nat} (hk : k.toInt = (kk : Int)) (hk6 : kk < 6) (hc : ab_ri h 28 8 = (kk : Int) → CF h w p sg b K) : mc_M l G d mt_X7_fillBy [.ref 28, .ref cu, .int k] h n (fun r' h' n' => r' = none ∧ mc_HW h' n' ∧ n ≤ n' ∧ (∃ w' N' : Nat, WA h' n' w' N' ∧ CF h' w' p sg b K) ∧ ab_ri h' 28 8 = (kk : Int) ∧ FBF h h' n w) := by
  obtain ⟨d, rfl⟩ : ∃ e, d = e + 1 := ⟨d - 1, by omega⟩
  have hmi : mt_X7_fillBy ∈ mt_prog := List.mem_of_getElem? mi_X7_fillBy
  have hmk : md_ok mt_X7_fillBy 1 41160 := ⟨hmi, Nat.le_refl 1, Nat.le_refl 41160⟩
  obtain ⟨hwn, hk34, w4, wl, hN0, hw6, hw7⟩ := id W
  obtain ⟨s1, s2, s3, hb, hp20, hgc⟩ := id S
  have hw28 : w ≠ 28 := dy_ne hk34 (by decide)
  have hw29 : w ≠ 29 := dy_ne hk34 (by decide)
  have hn := H.1
  refine mc_to hmi rfl ?_
  show mc_R _ _ _ _ _ (0, [(0, .ref 28), (1, .ref cu), (2, .int k)], [], h, n, 0, 0)
  refine mc_cx hmi 1 (F' := (1, [(0, .ref 28), (1, .ref cu), (2, .int k)], [.ref 28], h, n, 0, 0)) (by with_unfolding_all rfl) ?_
  refine mc_geti hmi H (k := 28) (j := 8) (pc' := 4) rfl rfl rfl rfl (fun y115 (e116 : y115.toInt = ab_ri h 28 8) r117 r118 => ?_)
  rw [e116] at r117 r118
  refine mc_cx hmi 1 (F' := (5, [(0, .ref 28), (1, .ref cu), (2, .int k)], [.int k, .int y115], h, n, 0, 0)) (by with_unfolding_all rfl) ?_
  refine mc_ci hmi (c := .ne) (tg := 9) (pc' := 8) rfl rfl rfl e116 hk (fun (q119 : ab_ri h 28 8 ≠ (kk : Int)) => ?_) (fun (q119 : ab_ri h 28 8 = (kk : Int)) => ?_)
  · refine mc_cx hmi 2 (F' := (11, [(0, .ref 28), (1, .ref cu), (2, .int k)], [.int k, .ref 28], h, n, 0, 0)) (by with_unfolding_all rfl) ?_
    refine mc_puti hmi H (k := 28) (j := 8) (pc' := 14) rfl rfl rfl rfl (by rw [hk]; omega) (by rw [hk]; omega) rfl (fun h120 H121 w122 => ?_)
    refine mc_cx hmi 1 (F' := (15, [(0, .ref 28), (1, .ref cu), (2, .int k)], [.ref 28], h120, n, 0, 0)) (by with_unfolding_all rfl) ?_
    have r1 := mc_ri w122
    have x4 : ab_rd h120 28 4 = some (.ref w) := by rw [w122, if_neg (fun q => absurd q.2 (by decide))]; exact w4
    have xl : ab_ri h120 w (-1) = (N : Int) := by rw [r1, if_neg (fun q => hw28 q.1)]; exact wl
    have xp : ab_ri h120 28 1 = (p : Int) := by rw [r1, if_neg (fun q => absurd q.2 (by decide))]; exact s1
    have xR : ab_ri h120 28 2 = (R : Int) := by rw [r1, if_neg (fun q => absurd q.2 (by decide))]; exact s2
    have hsg : ∀ i : Nat, i < p → ab_ri h 29 (i : Int) = (sg i : Int) := fun i hi => by rw [s3 i (by omega), if_neg (by omega)]
    have xs : ∀ i : Nat, i < p → ab_ri h120 29 (i : Int) = (sg i : Int) := fun i hi => by rw [r1, if_neg (fun q => absurd q.1 (by decide))]; exact hsg i hi
    have hfm : fm sg p ≤ 2744 := by
      rw [fm_gc hsg p (Nat.le_refl p)]
      have := pow3 hgc
      omega
    refine md_callX hmi (en := (15, .invokevirtual 60, 3, (3, 77, 7, 0), [946, 51, 944])) rfl (q := (mt_X7_makeRoom, [.ref 28], [])) (mc_inv H121 (as := []) (rest := []) rfl (by with_unfolding_all rfl) rfl rfl rfl) ⟨rfl, rfl⟩ ⟨Nat.le_refl 1, Nat.le_refl 41160⟩ (pc' := 18) rfl (mc_mono (rm_ok (by omega) H121 hwn hk34 x4 xl hN0 xp xs hfm xR (by omega)) ?_)
    intro r2 h2 n2 P2
    obtain ⟨e2, H2, hn2, f2, w2, N2, hw2, hwn2, hk2, y4, yl, hC, hN02, hN2⟩ := P2
    rw [e2]
    show mc_R _ _ _ _ _ (18, [(0, .ref 28), (1, .ref cu), (2, .int k)], [], h2, n2, 1, 41160)
    refine md_cx hmk 2 (F' := (20, [(0, .ref 28), (1, .ref cu), (2, .int k)], [.int (Int32.ofInt 0), .ref 28], h2, n2, 1, 41160)) (by with_unfolding_all rfl) ?_
    refine md_puti hmk H2 (k := 28) (j := 6) (pc' := 23) rfl rfl rfl rfl (by rw [show ((Int32.ofInt 0)).toInt = 0 from by decide]; omega) (by rw [show ((Int32.ofInt 0)).toInt = 0 from by decide]; omega) rfl (fun h123 H124 w125 => ?_)
    refine md_cx hmk 2 (F' := (25, [(3, .int (Int32.ofInt 0)), (0, .ref 28), (1, .ref cu), (2, .int k)], [], h123, n2, 1, 41160)) (by with_unfolding_all rfl) ?_
    refine md_lvs (lv' := [(0, .ref 28), (1, .ref cu), (2, .int k), (3, .int (Int32.ofInt 0))]) (by simp) ?_
    have r3 := mc_ri w125
    have a28 : ∀ i : Int, i ≠ 4 → i ≠ 6 → i ≠ 8 → ab_rd h123 28 i = ab_rd h 28 i := fun i q4 q6 q8 => by rw [w125, if_neg (fun q => q6 q.2), f2 28 i (by omega) (fun _ => q4), w122, if_neg (fun q => q8 q.2)]
    have aO : ∀ (k' : Nat) (i' : Int), k' < n → k' ≠ 28 → ab_rd h123 k' i' = ab_rd h k' i' := fun k' i' q1 q2 => by rw [w125, if_neg (fun q => q2 q.1), f2 k' i' q1 (fun q => absurd q q2), w122, if_neg (fun q => q2 q.1)]
    refine fb_lp H124 hmk (p := p) ((ab_ri_of (a28 1 (by decide) (by decide) (by decide))).trans s1) hp20 (fun h4 H4 f4 t4 => ?_) p 0 h123 (Int32.ofInt 0) (Nat.zero_add p) (by decide) H124 (fun _ _ _ => rfl) (fun t ht => absurd ht (Nat.not_lt_zero t))
    have hwx : ∀ x, ab_k x ≠ 34 → w2 ≠ x := fun x hx => dy_ne hk2 hx
    have hwN : ∀ k', k' < n → k' ≠ w → k' ≠ w2 := fun k' q1 q2 q3 => hw2.elim (fun e => q2 (q3.trans e)) (fun e => by omega)
    have b28 : ∀ i : Int, i ≠ 4 → i ≠ 6 → i ≠ 8 → ab_rd h4 28 i = ab_rd h 28 i := fun i q4 q6 q8 => (f4 28 i (by decide)).trans (a28 i q4 q6 q8)
    have bO : ∀ (k' : Nat) (i' : Int), k' < n → k' ≠ 28 → k' ≠ 33 → ab_rd h4 k' i' = ab_rd h k' i' := fun k' i' q1 q2 q3 => (f4 k' i' q3).trans (aO k' i' q1 q2)
    have hcf : dw_Kf w2 cu c0 c1 c2 := fun k' hk' => by
      obtain ⟨g1, g2, g3, g4, g5, g6⟩ := hg k' hk'
      exact ⟨fun e => hwx k' g2 e.symm, g3, g4, g5, g6⟩
    have E4 : FW_E h4 w2 N2 p R sg cu c0 c1 c2 K := by
      refine ⟨?_, ?_, (ab_ri_of (b28 1 (by decide) (by decide) (by decide))).trans s1, (ab_ri_of (b28 2 (by decide) (by decide) (by decide))).trans s2, fun i hi => ?_, dw_K_fr (fun k' i' hk' => ?_) hK⟩
      · rw [f4 28 4 (by decide), w125, if_neg (fun q => absurd q.2 (by decide))]; exact y4
      · rw [ab_ri_of (f4 w2 (-1) (hwx 33 (by decide))), r3, if_neg (fun q => hwx 28 (by decide) q.1)]; exact yl
      · rw [ab_ri_of (bO 29 (i : Int) (by omega) (by decide) (by decide))]; exact s3 i hi
      · obtain ⟨g1, g2, g3, g4, g5, g6⟩ := hg k' hk'
        exact bO k' i' (by omega) g6 g3
    have S4 : CS h4 w2 0 p (fun _ _ => False) := CS_0 (by rw [ab_ri_of (f4 28 6 (by decide)), r3, if_pos ⟨rfl, rfl⟩]; rfl) t4
    have rc := ff_ok (l := l) (G := G) (sg := sg) (K := K) hwn2 hk2 ⟨hwx 28 (by decide), hwx 29 (by decide), hwx 30 (by decide), hwx 31 (by decide), hwx 33 (by decide)⟩ hb hp20 hN2 hcf R d 0 (by omega) (Nat.zero_add R)
    refine md_cx hmk 4 (F' := (51, [(0, .ref 28), (1, .ref cu), (2, .int k)], [.int (Int8.ofInt 14).toInt32, .ref cu, .int (Int32.ofInt 0), .ref 28], h4, n2, 1, 41160)) (by with_unfolding_all rfl) ?_
    refine md_call hmk (en := (51, .invokestatic 65, 3, (3, 78, 0, 0), [949, 948])) rfl (q := (mt_X7_fillFrom, [.ref 28, .int (Int32.ofInt 0), .ref cu, .int (Int8.ofInt 14).toInt32], [])) (by with_unfolding_all rfl) ⟨rfl, rfl⟩ (pc' := 54) rfl (mc_mono (rc 0 h4 (fun _ => 0) (fun _ _ => False) 14 0 0 0 (Int32.ofInt 0) (Int8.ofInt 14).toInt32 (by decide) H4 E4 (by rw [Nat.zero_add]; exact hC) (fun j hj => absurd hj (Nat.not_lt_zero j)) (fun j hj => absurd hj (Nat.not_lt_zero j)) rfl df_eF ⟨Nat.le_refl 14, Nat.zero_le _, Nat.zero_le _, Nat.zero_le _⟩ S4) ?_)
    intro r5 h5 n5 P5
    obtain ⟨e5, e5', H5, ⟨m, hm5, S5⟩, f5, l5, -⟩ := P5
    rw [e5, e5']
    show mc_R _ _ _ _ _ (54, [(0, .ref 28), (1, .ref cu), (2, .int k)], [], h5, n2, 1, 41160)
    have S5' := CS_ex fl_E0 S5
    have hmN : m ≤ N2 := by omega
    have c4 : ab_rd h5 28 4 = some (.ref w2) := (f5 28 4 (hwx 28 (by decide)).symm (by decide) (by decide) (by decide) (by decide)).trans E4.1
    refine md_cx hmk 1 (F' := (55, [(0, .ref 28), (1, .ref cu), (2, .int k)], [.ref 28], h5, n2, 1, 41160)) (by with_unfolding_all rfl) ?_
    refine md_call hmk (en := (55, .invokevirtual 69, 3, (3, 80, 7, 0), [960, 53, 958])) rfl (q := (mt_X7_sortWorths, [.ref 28], [])) (mc_inv H5 (as := []) (rest := []) rfl (by with_unfolding_all rfl) rfl rfl rfl) ⟨rfl, rfl⟩ (pc' := 58) rfl (mc_mono (sw_ok (by omega) H5 hwn2 hk2 c4 S5.1 hmN hN2 l5 rfl) ?_)
    intro r6 h6 n6 P6
    obtain ⟨e6, e6', H6, f6, l6, E6, o6⟩ := P6
    rw [e6, e6']
    show mc_R _ _ _ _ _ (58, [(0, .ref 28), (1, .ref cu), (2, .int k)], [], h6, n2, 1, 41160)
    have d4 : ab_rd h6 28 4 = some (.ref w2) := (f6 28 4 (hwx 28 (by decide)).symm).trans c4
    have d6 : ab_ri h6 28 6 = (m : Int) := (ab_ri_of (f6 28 6 (hwx 28 (by decide)).symm)).trans S5.1
    refine md_cx hmk 1 (F' := (59, [(0, .ref 28), (1, .ref cu), (2, .int k)], [.ref 28], h6, n2, 1, 41160)) (by with_unfolding_all rfl) ?_
    refine md_call hmk (en := (59, .invokevirtual 72, 3, (3, 81, 7, 0), [964, 54, 962])) rfl (q := (mt_X7_dropLikeWorths, [.ref 28], [])) (mc_inv H6 (as := []) (rest := []) rfl (by with_unfolding_all rfl) rfl rfl rfl) ⟨rfl, rfl⟩ (pc' := 62) rfl (mc_mono (dl_ok (by omega) H6 hwn2 hk2 d4 d6 hmN hN2 l6 rfl o6) ?_)
    intro r7 h7 n7 P7
    obtain ⟨e7, e7', H7, f7, l7, u, hu, D7⟩ := P7
    rw [e7, e7']
    show mc_R _ _ _ _ _ (62, [(0, .ref 28), (1, .ref cu), (2, .int k)], [], h7, n2, 1, 41160)
    have z28 : ∀ i : Int, i ≠ 4 → i ≠ 6 → i ≠ 7 → i ≠ 8 → ab_rd h7 28 i = ab_rd h 28 i := fun i q4 q6 q7 q8 => ((f7 28 i (hwx 28 (by decide)).symm (fun _ => q7)).trans ((f6 28 i (hwx 28 (by decide)).symm).trans (f5 28 i (hwx 28 (by decide)).symm (by decide) (by decide) (by decide) (fun _ => q6)))).trans (b28 i q4 q6 q8)
    have hu7 := D7.1
    refine md_ret hmk rfl rfl rfl ⟨rfl, H7, hn2, ⟨w2, N2, ⟨hwn2, hk2, (f7 28 4 (hwx 28 (by decide)).symm (by decide)).trans d4, l7, hN2, ?_, ?_⟩, u, hu, D7.2.2.1, fun v => ?_, fun i hi => ?_⟩, ?_, fun k' i' q1 q2 q3 q4 q5 q6 => ?_⟩
    · rw [ab_ri_of (f7 28 6 (hwx 28 (by decide)).symm (by decide)), d6]; omega
    · rw [hu]; omega
    · exact (S5'.2.1 v).trans ((E6 v).trans (D7.2.2.2.1 v))
    · rw [ab_ri_of (f7 33 (i : Int) (hwx 33 (by decide)).symm (fun q => absurd q (by decide))), ab_ri_of (f6 33 (i : Int) (hwx 33 (by decide)).symm)]; exact S5'.2.2.1 i hi
    · rw [ab_ri_of (f7 28 8 (hwx 28 (by decide)).symm (by decide)), ab_ri_of (f6 28 8 (hwx 28 (by decide)).symm), ab_ri_of (f5 28 8 (hwx 28 (by decide)).symm (by decide) (by decide) (by decide) (by decide)), ab_ri_of (f4 28 8 (by decide)), r3, if_neg (fun q => absurd q.2 (by decide)), ab_ri_of (f2 28 8 (by omega) (by decide)), r1, if_pos ⟨rfl, rfl⟩]; exact hk
    · by_cases e : k' = 28
      · subst e; obtain ⟨g1, g2, g3, g4⟩ := q6 rfl; exact z28 i' g1 g2 g3 g4
      · have hx := hwN k' q1 q2
        exact ((f7 k' i' hx (fun q => absurd q e)).trans ((f6 k' i' hx).trans (f5 k' i' hx q3 q4 q5 (fun q => absurd q e)))).trans (bO k' i' q1 e q3)
  · exact mc_ret hmi rfl rfl rfl ⟨rfl, H, Nat.le_refl n, ⟨w, N, W, hc q119⟩, q119, fun _ _ _ _ _ _ _ _ => rfl⟩
end
