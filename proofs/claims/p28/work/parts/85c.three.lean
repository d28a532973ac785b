/-! ===== could, says, sure of both alike (printed by wip/v2/mk85d.py) ===== -/
/-- a call of both where the class's may read the stone -/
def lx_B3 (l : Launch) (G : ax_T) (m1 m2 : ax_MI) (a1 a2 : List Value) (h : ax_H) (n cs ss : Nat) : Prop := (∃ (x : Int32) (h2 : ax_H) (n2 : Nat), ab_M l G 40 (zz m1) a1 h n (some (.int x), h, n) ∧ ab_M l G 40 m2 a2 h n (some (.int x), h2, n2) ∧ lx_I h2 n2 cs ss) ∨ ∃ (x : Int32) (h1 : ax_H) (n1 : Nat) (h2 : ax_H) (n2 : Nat), ab_M l G 40 m1 a1 h n (some (.int x), h1, n1) ∧ ab_M l G 40 m2 a2 h1 n1 (some (.int x), h2, n2) ∧ ab_HT h1 n1 ∧ lx_I h2 n2 (cs + 1) (ss + 41160)
/-- enumerations of both -/
theorem cf_rs {h1 h2 : ax_H} {w p m : Nat} {sg : Nat → Nat} {b : Prop} {K : df_K} (C : CF h1 w p sg b K) (D : SD h2 m (fl_W (fl_F K p sg b))) : ab_ri h1 28 7 = (m : Int) ∧ (∀ i j, i < m → j < m → (fun t : Nat => ab_ri h2 568 (t : Int)) i = (fun t : Nat => ab_ri h2 568 (t : Int)) j → i = j) ∧ (∀ x y : Nat, x < y → y < m → (fun t : Nat => ab_ri h1 w (t : Int)) x < (fun t : Nat => ab_ri h1 w (t : Int)) y) ∧ ∀ v : Int, (∃ j, j < m ∧ (fun t : Nat => ab_ri h2 568 (t : Int)) j = v) ↔ ∃ i, i < m ∧ (fun t : Nat => ab_ri h1 w (t : Int)) i = v := by
  obtain ⟨u, c1, c2, c3, -⟩ := C
  obtain ⟨-, d2, d3, -⟩ := D
  have E : ∀ v : Int, (∃ j, j < m ∧ (fun t : Nat => ab_ri h2 568 (t : Int)) j = v) ↔ ∃ i, i < u ∧ (fun t : Nat => ab_ri h1 w (t : Int)) i = v := fun v => (d2 v).symm.trans (c3 v)
  have e : u = m := cn_same (f := fun t : Nat => ab_ri h2 568 (t : Int)) (A := fun t : Nat => ab_ri h1 w (t : Int)) d3 c2 E
  subst e
  exact ⟨c1, d3, c2, E⟩
/-- the sign that is sure -/
theorem cf_sf {T : Nat → Prop} {c1 c2 : Int} (a : cf T c1) (b : sf T c2) : c2 = 14 ∧ c1 = -1 ∨ c2 ≠ 14 ∧ c1 = c2 := by
  rcases a with ⟨x, a1, a2, a3, a4⟩ | ⟨a1, a2⟩
  · rcases b with ⟨b1, b2⟩ | ⟨y, b1, b2, b3, b4⟩ | ⟨b1, y, z, b2, b3, b4⟩
    · exact absurd a3 (b2 x)
    · have := b4 x a3
      exact Or.inr ⟨by omega, by omega⟩
    · exact absurd ((a4 y b2).trans (a4 z b3).symm) b4
  · rcases b with ⟨b1, b2⟩ | ⟨y, b1, b2, b3, b4⟩ | ⟨b1, y, z, b2, b3, b4⟩
    · exact Or.inr ⟨by omega, by omega⟩
    · rcases a2 with a2 | ⟨u, v, u1, u2, u3⟩
      · exact absurd b3 (a2 y)
      · exact absurd ((b4 u u1).trans (b4 v u2).symm) u3
    · exact Or.inl ⟨b1, a1⟩
section L3
variable {l : Launch} {G : ax_T} {h : ax_H} {n cs ss : Nat}
theorem lx_3e (hI : lx_I h n cs ss) : (∀ a : Int32, st_c h a ↔ sr_c h a) ∧ (st_s h ↔ sr_s h) := by
  obtain ⟨hT, -, -, rL, rN, ⟨L, C, f, a1, a2, a3, a4, a5, a6, a7⟩, p, R, sg, b, w, r1, r2, r3, r4, r5, r6⟩ := hI
  have e8 : ab_ri h 0 8 = ab_ri h 542 4 := (ri_of a3).trans (ri_of a4).symm
  have h30 : 0 ≤ ab_ri h 0 10 ∧ ab_ri h 0 10 ≤ 30 := mc_frng (mc_HW_of hT) (k := 0) (j := 10) (ci := 10) rfl rfl
  have e1 := r1.1
  have e14 := r2.1
  constructor
  · intro a
    unfold st_c sr_c
    rw [e8]
  · unfold st_s sr_s
    constructor
    · intro z
      rcases z with z | z
      · exact Or.inl (by omega)
      · exact Or.inr (by omega)
    · intro z
      rcases z with z | z
      · exact Or.inl (by omega)
      · exact Or.inr (by omega)
def ck_1 (L : List (Nat × Int)) : Bool := L.all fun q => Nat.blt q.1 573 && (!(Nat.beq (ab_k q.1) 34) && (!(Nat.beq q.1 33) && (!(Nat.beq q.1 30) && (!(Nat.beq q.1 31) && (!(Nat.beq q.1 28) && !(Nat.beq q.1 0 && decide (q.2 = 10)))))))
def ck_2 (L : List (Nat × Int)) : Bool := L.all fun q => !(Nat.beq q.1 568) && (!(Nat.beq q.1 569) && (!(Nat.beq q.1 570) && (!(Nat.beq q.1 571) && !(Nat.beq q.1 542 && (decide (q.2 = 37) || decide (q.2 = 24))))))
theorem nbeq_ne {a b : Nat} (h : (!(Nat.beq a b)) = true) : a ≠ b := fun e => by
  subst e
  rw [Nat.beq_refl] at h
  cases h
theorem ck_1_ok {L : List (Nat × Int)} {h1 : ax_H} (hL : ck_1 L = true) (F : ∀ (k' : Nat) (i' : Int), k' < 573 → ab_k k' ≠ 34 → k' ≠ 33 → k' ≠ 30 → k' ≠ 31 → k' ≠ 28 → (k' = 0 → i' ≠ 10) → ab_rd h1 k' i' = ab_rd h k' i') : kpt L h h1 := fun q hq => by
  have h1 := List.all_eq_true.mp hL q hq
  rw [Bool.and_eq_true, Bool.and_eq_true, Bool.and_eq_true, Bool.and_eq_true, Bool.and_eq_true, Bool.and_eq_true, Nat.blt_eq] at h1
  obtain ⟨c1, c2, c3, c4, c5, c6, c7⟩ := h1
  refine F q.1 q.2 c1 (nbeq_ne c2) (nbeq_ne c3) (nbeq_ne c4) (nbeq_ne c5) (nbeq_ne c6) (fun e1 e2 => ?_)
  rw [e1, e2] at c7
  exact absurd c7 (by decide)
theorem ck_2_ok {L : List (Nat × Int)} {h1 h2 : ax_H} (hL : ck_2 L = true) (F : ∀ (k' : Nat) (i' : Int), k' ≠ 568 → k' ≠ 569 → k' ≠ 570 → k' ≠ 571 → (k' = 542 → i' ≠ 37 ∧ i' ≠ 24) → ab_rd h2 k' i' = ab_rd h1 k' i') : kpt L h1 h2 := fun q hq => by
  have h1 := List.all_eq_true.mp hL q hq
  rw [Bool.and_eq_true, Bool.and_eq_true, Bool.and_eq_true, Bool.and_eq_true] at h1
  obtain ⟨c1, c2, c3, c4, c5⟩ := h1
  refine F q.1 q.2 (nbeq_ne c1) (nbeq_ne c2) (nbeq_ne c3) (nbeq_ne c4) (fun e1 => ⟨fun e2 => ?_, fun e2 => ?_⟩)
  · rw [e1, e2] at c5
    exact absurd c5 (by decide)
  · rw [e1, e2] at c5
    exact absurd c5 (by decide)
theorem kpt_t {L : List (Nat × Int)} {h h1 h2 : ax_H} (a : kpt L h h1) (b : kpt L h1 h2) : kpt L h h2 := fun q hq => (b q hq).trans (a q hq)
set_option maxRecDepth 100000 in
theorem ck_K2 : ck_1 (lx_L ++ (lx_N ++ (lx_P ++ (lx_C0 ++ lx_C1)))) = true ∧ ck_2 (lx_L ++ (lx_N ++ (lx_P ++ (lx_C0 ++ lx_C1)))) = true := by decide +kernel
set_option maxHeartbeats 1000000 in
/-- where a custom reads the stone: what both start from, and what stands behind -/
theorem lx_3 (hI : lx_I h n cs ss) (a : Int32) (c : st_c h a) (ns : ¬ st_s h) : ∃ (p R : Nat) (sg : Nat → Nat) (b : Prop) (w N kk : Nat) (K : df_K), WA h n w N ∧ SL h p R sg b ∧ a.toInt = (kk : Int) ∧ kk < 6 ∧ pg_ck h kk ∧ dw_K h (122 + 4 * kk) (123 + 4 * kk) (124 + 4 * kk) (125 + 4 * kk) K ∧ (ab_ri h 28 8 = (kk : Int) → CF h w p sg b K) ∧ ∀ (h1 : ax_H) (n1 : Nat), RSQ h n w p sg b K kk h1 n1 → ab_HT h1 n1 ∧ RT h1 p sg b ∧ kz_K h1 kk K ∧ df_G K ∧ sr_c h1 a ∧ ¬ sr_s h1 ∧ ∀ (h2 : ax_H) (n2 : Nat), RFQ h1 n1 p sg b K h2 n2 → lx_I h2 n2 (cs + 1) (ss + 41160) := by
  have hE := lx_3e hI
  obtain ⟨hT, hcs, hss, rL, rN, rP, p, R, sg, b, w, r1, r2, r3, r4, r5, r6⟩ := hI
  obtain ⟨L, C, f, a1, a2, a3, a4, a5, a6, a7⟩ := id rP
  have HW := mc_HW_of hT
  have hn := hT.1
  have e8 : ab_ri h 0 8 = C.toInt := ri_of a3
  have c6 : 0 ≤ ab_ri h 0 8 ∧ ab_ri h 0 8 ≤ 6 := mc_frng HW (k := 0) (j := 8) (ci := 10) rfl rfl
  have c' : 0 ≤ a.toInt ∧ a.toInt < ab_ri h 0 8 := c
  have nsr : ¬ sr_s h := fun z => ns (hE.2.mpr z)
  have src : sr_c h a := (hE.1 a).mp c
  obtain ⟨kk, hkk⟩ : ∃ kk : Nat, a.toInt = (kk : Int) := ⟨a.toInt.toNat, by omega⟩
  have hk6 : kk < 6 := by omega
  obtain ⟨w1, w2⟩ := ht_w hT r3
  obtain ⟨N, f', -, -, hN, wl, -⟩ := dy_arr HW w1 w2
  have J := hT.2.2.1
  obtain ⟨j6, j7⟩ := J.2.2 w r3
  rw [wl] at j6 j7
  have hp := r1.2.2.2.2.1
  have sk : lx_sk h kk := fun t ht => by
    obtain ⟨x, y, z, ⟨u1, u2, u3⟩, v1, v2, v3⟩ := (a7 kk hk6).2.1 (by omega) t ht
    rw [ri_of u1, ri_of u2, ri_of u3, ri_of v1, ri_of v2, ri_of v3]
    exact ⟨rfl, rfl, rfl⟩
  refine ⟨p, R, sg, b, w, N, kk, Kof h kk, ⟨w1, w2, r3, wl, hN, j6, j7⟩, r1, hkk, hk6, (a7 kk hk6).1, Kof_dw HW hk6 (a7 kk hk6).1 sk, fun e => (r6 kk hk6 e).2, fun h1 n1 Q => ?_⟩
  obtain ⟨H1, hn1, ⟨w', N', W', C'⟩, q8, q10, fr⟩ := Q
  have F : ∀ (k' : Nat) (i' : Int), k' < 573 → ab_k k' ≠ 34 → k' ≠ 33 → k' ≠ 30 → k' ≠ 31 → (k' = 28 → i' = 1 ∨ i' = 2) → (k' = 0 → i' ≠ 10) → ab_rd h1 k' i' = ab_rd h k' i' := fun k' i' x1 x2 x3 x4 x5 x6 x7 => fr k' i' (by omega) (fun e => x2 (e ▸ w2)) x3 x4 x5 (fun e => by have := x6 e; omega) x7
  have R1 := fun (i' : Int) (q : i' = 1 ∨ i' = 2) => F 28 i' (by decide) (by decide) (by decide) (by decide) (by decide) (fun _ => q) (fun e => absurd e (by decide))
  have R2 := fun (k' : Nat) (i' : Int) (x1 : k' < 573) (x2 : ab_k k' ≠ 34) (x3 : k' ≠ 33) (x4 : k' ≠ 30) (x5 : k' ≠ 31) (x6 : k' ≠ 28) (x7 : k' ≠ 0) => F k' i' x1 x2 x3 x4 x5 (fun e => absurd e x6) (fun e => absurd e x7)
  have g29 : ∀ i : Int, ab_rd h1 29 i = ab_rd h 29 i := fun i => R2 29 i (by decide) (by decide) (by decide) (by decide) (by decide) (by decide) (by decide)
  have g554 : ∀ i : Int, ab_rd h1 554 i = ab_rd h 554 i := fun i => R2 554 i (by decide) (by decide) (by decide) (by decide) (by decide) (by decide) (by decide)
  have g542 : ∀ i : Int, ab_rd h1 542 i = ab_rd h 542 i := fun i => R2 542 i (by decide) (by decide) (by decide) (by decide) (by decide) (by decide) (by decide)
  obtain ⟨v1, v2, v3, v4, v5, v6, v7⟩ := id W'
  have J1 : ab_J h1 := by
    refine ⟨⟨?_, ?_, ?_⟩, ?_, fun x hx => ?_⟩
    · rw [ab_ri_of (R1 1 (Or.inl rfl)), ab_gc_of _ (fun i _ => g29 (i : Int))]; exact J.1.1
    · rw [ab_ri_of (R1 1 (Or.inl rfl)), ab_ri_of (R1 2 (Or.inr rfl))]; exact J.1.2.1
    · rw [ab_ri_of (R1 1 (Or.inl rfl)), ab_ri_of (R1 2 (Or.inr rfl))]; exact J.1.2.2
    · rw [ab_ri_of (g542 14), ab_gc_of _ (fun i _ => g554 (i : Int))]; exact J.2.1
    · rw [v3] at hx
      cases hx
      rw [v4]
      exact ⟨v6, v7⟩
  have T1 : ab_HT h1 n1 := mc_HT_of H1 J1
  have RT1 : RT h1 p sg b := RT_fr hp (g542 14) (g542 15) (fun i _ => g554 (i : Int)) r2
  have KZ : kz_K h1 kk (Kof h kk) := kz_K_fr (fun k' i' q => by
    rcases q with rfl | rfl | rfl
    · exact R2 546 i' (by decide) (by decide) (by decide) (by decide) (by decide) (by decide) (by decide)
    · exact R2 547 i' (by decide) (by decide) (by decide) (by decide) (by decide) (by decide) (by decide)
    · exact R2 548 i' (by decide) (by decide) (by decide) (by decide) (by decide) (by decide) (by decide)) (Kof_kz HW hk6 sk)
  refine ⟨T1, RT1, KZ, Kof_G (r5 kk hk6 (by omega)), ?_, ?_, fun h2 n2 Q2 => ?_⟩
  · unfold sr_c at src ⊢
    rw [ab_ri_of (g542 4)]
    exact src
  · unfold sr_s at nsr ⊢
    rw [ab_ri_of (g542 14), ab_ri_of (g542 24)]
    exact nsr
  · obtain ⟨en, H2, RSs, e24, fr2⟩ := Q2
    subst en
    have G2 : ∀ (k' : Nat) (i' : Int), k' ≠ 568 → k' ≠ 569 → k' ≠ 570 → k' ≠ 571 → k' ≠ 542 → ab_rd h2 k' i' = ab_rd h1 k' i' := fun k' i' x1 x2 x3 x4 x5 => fr2 k' i' x1 x2 x3 x4 (fun e => absurd e x5)
    have G34 : ∀ (k' : Nat) (i' : Int), ab_k k' = 34 → ab_rd h2 k' i' = ab_rd h1 k' i' := fun k' i' e => G2 k' i' (dy_ne e (by decide)) (dy_ne e (by decide)) (dy_ne e (by decide)) (dy_ne e (by decide)) (dy_ne e (by decide))
    have T2 : ab_HT h2 n2 := ht_of T1 H2 (fun k i q => by
      rcases q with rfl | rfl | rfl | ⟨rfl, rfl⟩ | q
      · exact G2 28 i (by decide) (by decide) (by decide) (by decide) (by decide)
      · exact G2 29 i (by decide) (by decide) (by decide) (by decide) (by decide)
      · exact G2 554 i (by decide) (by decide) (by decide) (by decide) (by decide)
      · exact fr2 542 14 (by decide) (by decide) (by decide) (by decide) (fun _ => ⟨by decide, by decide⟩)
      · exact G34 k i q)
    have K2 : kpt (lx_L ++ (lx_N ++ (lx_P ++ (lx_C0 ++ lx_C1)))) h h2 := kpt_t (ck_1_ok ck_K2.1 (fun k' i' x1 x2 x3 x4 x5 x6 x7 => F k' i' x1 x2 x3 x4 x5 (fun e => absurd e x6) x7)) (ck_2_ok ck_K2.2 fr2)
    have kc : kpt lx_C0 h h2 := kpt_l (kpt_r (kpt_r (kpt_r K2)))
    have e10 : ab_ri h2 0 10 = ab_ri h 0 10 + 1 := (ab_ri_of (G2 0 10 (by decide) (by decide) (by decide) (by decide) (by decide))).trans q10
    have e08 : ab_ri h2 0 8 = ab_ri h 0 8 := (ab_ri_of (G2 0 8 (by decide) (by decide) (by decide) (by decide) (by decide))).trans (ab_ri_of (F 0 8 (by decide) (by decide) (by decide) (by decide) (by decide) (fun e => absurd e (by decide)) (fun _ => by decide)))
    have e88 : ab_ri h2 28 8 = (kk : Int) := (ab_ri_of (G2 28 8 (by decide) (by decide) (by decide) (by decide) (by decide))).trans q8
    refine ⟨T2, by rw [e10]; omega, by rw [e10]; omega, lx_RL_k (kpt_l K2) rL, lx_RN_k (kpt_l (kpt_r K2)) rN, lx_RP_k (kpt_r (kpt_r K2)) rP, p, R, sg, b, w', SL_fr ((G2 28 1 (by decide) (by decide) (by decide) (by decide) (by decide)).trans (R1 1 (Or.inl rfl))) ((G2 28 2 (by decide) (by decide) (by decide) (by decide) (by decide)).trans (R1 2 (Or.inr rfl))) (fun i _ => (G2 29 (i : Int) (by decide) (by decide) (by decide) (by decide) (by decide)).trans (g29 (i : Int))) r1, RT_fr hp (fr2 542 14 (by decide) (by decide) (by decide) (by decide) (fun _ => ⟨by decide, by decide⟩)) (fr2 542 15 (by decide) (by decide) (by decide) (by decide) (fun _ => ⟨by decide, by decide⟩)) (fun i _ => G2 554 (i : Int) (by decide) (by decide) (by decide) (by decide) (by decide)) RT1, (G2 28 4 (by decide) (by decide) (by decide) (by decide) (by decide)).trans v3, ?_, fun k hk hkc => lx_kb_fr (fun t ht => lx_C0_ri kc hk t ht) (r5 k hk (by omega)), fun k hk e => ?_⟩
    · rw [e24, ab_ri_of (g542 24), e10, r4]
    · obtain rfl : k = kk := by omega
      refine ⟨by omega, ?_⟩
      rw [Kof_fr (fun t ht => lx_C0_ri kc hk t ht)]
      exact CF_fr hp (G2 28 7 (by decide) (by decide) (by decide) (by decide) (by decide)) (fun i _ => G2 33 (i : Int) (by decide) (by decide) (by decide) (by decide) (by decide)) (fun i _ => G34 w' i v2) C'
theorem lx_3co (hI : lx_I h n cs ss) (a : Int32) : lx_B3 l G mt_X10_could mt_X11_could [.ref 0, .int a] [.ref 542, .int a] h n cs ss := by
  have hE := lx_3e hI
  have HW := mc_HW_of hI.1
  by_cases c : st_c h a ∧ ¬ st_s h
  · obtain ⟨p, R, sg, b, w, N, kk, K, W, S, ha, hk6, ck, hK, hc, nx⟩ := lx_3 hI a c.1 c.2
    obtain ⟨⟨r1, h1, n1⟩, m1, y1, e1, Q, p1⟩ := xs_could (l := l) (G := G) (d := 40) (by omega) HW W S ha hk6 ck hK hc c.2 c.1
    have e1' : r1 = some (.int y1) := e1
    have Q' : RSQ h n w p sg b K kk h1 n1 := Q
    subst e1'
    obtain ⟨T1, RT1, KZ, hG, src, nsr, fin⟩ := nx h1 n1 Q'
    obtain ⟨⟨r2, h2, n2⟩, m2, y2, e2, Q2, p2⟩ := xr_could (l := l) (G := G) (d := 40) (by omega) (mc_HW_of T1) RT1 ha hk6 KZ hG src nsr
    have e2' : r2 = some (.int y2) := e2
    have Q2' : RFQ h1 n1 p sg b K h2 n2 := Q2
    subst e2'
    have e : y1.toInt = y2.toInt := by
      obtain ⟨-, -, ⟨w', N', W', C'⟩, -⟩ := Q'
      obtain ⟨-, -, ⟨⟨m, D⟩, TT⟩, -⟩ := Q2'
      obtain ⟨u1, -⟩ := cf_rs C' D
      have p1' : y1.toInt = ab_ri h1 28 7 := p1
      have p2' : y2.toInt = ab_ri h2 542 37 := p2
      rw [p1', p2', u1, D.1]
    have e' : y1 = y2 := Int32.toInt_inj.mp e
    subst e'
    exact Or.inr ⟨y1, h1, n1, h2, n2, m1, m2, T1, fin h2 n2 Q2'⟩
  · obtain ⟨y1, m1, q1⟩ := ak_at (zs_could (l := l) (G := G) (d := 40) (by omega) HW a c)
    obtain ⟨y2, m2, q2⟩ := ak_at (zr_could (l := l) (G := G) (d := 40) (by omega) HW a (fun z => c ⟨(hE.1 a).mpr z.1, fun y => z.2 (hE.2.mp y)⟩))
    have e : y1.toInt = y2.toInt := by
      have E1 := hE.1 a
      have E2 := hE.2
      rcases q1 with ⟨s1, s2⟩ | ⟨s1, s2, s3⟩
      · rcases q2 with ⟨s4, s5⟩ | ⟨s4, s5, s6⟩
        · rw [s2, s5]
        · exact absurd (E1.mpr s4) s1
      · rcases q2 with ⟨s4, s5⟩ | ⟨s4, s5, s6⟩
        · exact absurd (E1.mp s1) s4
        · rw [s3, s6]
    have e' : y1 = y2 := Int32.toInt_inj.mp e
    subst e'
    exact Or.inl ⟨y1, h, n, m1, m2, hI⟩
theorem lx_3sa (hI : lx_I h n cs ss) (a i : Int32) : lx_B3 l G mt_X10_says mt_X11_says [.ref 0, .int a, .int i] [.ref 542, .int a, .int i] h n cs ss := by
  have hE := lx_3e hI
  have HW := mc_HW_of hI.1
  by_cases c : st_c h a ∧ ¬ st_s h
  · obtain ⟨p, R, sg, b, w, N, kk, K, W, S, ha, hk6, ck, hK, hc, nx⟩ := lx_3 hI a c.1 c.2
    obtain ⟨⟨r1, h1, n1⟩, m1, y1, e1, Q, p1⟩ := xs_says (l := l) (G := G) (d := 40) (by omega) HW W S ha hk6 ck hK hc c.2 c.1 (i := i)
    have e1' : r1 = some (.int y1) := e1
    have Q' : RSQ h n w p sg b K kk h1 n1 := Q
    subst e1'
    obtain ⟨T1, RT1, KZ, hG, src, nsr, fin⟩ := nx h1 n1 Q'
    obtain ⟨⟨r2, h2, n2⟩, m2, y2, e2, Q2, p2⟩ := xr_says (l := l) (G := G) (d := 40) (by omega) (mc_HW_of T1) RT1 ha hk6 KZ hG src nsr (i := i)
    have e2' : r2 = some (.int y2) := e2
    have Q2' : RFQ h1 n1 p sg b K h2 n2 := Q2
    subst e2'
    have e : y1.toInt = y2.toInt := by
      obtain ⟨-, -, ⟨w', N', W', C'⟩, -⟩ := Q'
      obtain ⟨-, -, ⟨⟨m, D⟩, TT⟩, -⟩ := Q2'
      obtain ⟨u1, u2, u3, u4⟩ := cf_rs C' D
      have p1' : ¬ (0 ≤ i.toInt ∧ i.toInt < ab_ri h1 28 7) ∧ y1.toInt = -1 ∨ (0 ≤ i.toInt ∧ i.toInt < ab_ri h1 28 7) ∧ ∃ w' : Nat, ab_rd h1 28 4 = some (.ref w') ∧ y1.toInt = ab_ri h1 w' i.toInt := p1
      have p2' : ¬ (0 ≤ i.toInt ∧ i.toInt < ab_ri h2 542 37) ∧ y2.toInt = -1 ∨ (0 ≤ i.toInt ∧ i.toInt < ab_ri h2 542 37) ∧ ∃ m : Nat, ab_ri h2 542 37 = (m : Int) ∧ (cn (lt_x y2.toInt) (fun t : Nat => ab_ri h2 568 (t : Int)) m : Int) ≤ i.toInt ∧ i.toInt < (cn (lt_x (y2.toInt + 1)) (fun t : Nat => ab_ri h2 568 (t : Int)) m : Int) := p2
      have dm : ab_ri h2 542 37 = (m : Int) := D.1
      rcases p1' with ⟨s1, s2⟩ | ⟨s1, w2, s2, s3⟩
      · rcases p2' with ⟨s4, s5⟩ | ⟨s4, -⟩
        · rw [s2, s5]
        · exact absurd (by omega) s1
      · rcases p2' with ⟨s4, s5⟩ | ⟨s4, m', s5, s6, s7⟩
        · exact absurd (by omega) s4
        · obtain rfl : m = m' := by omega
          have ew : w2 = w' := by
            have := s2.symm.trans W'.2.2.1
            cases this
            rfl
          subst ew
          obtain ⟨-, z⟩ := cn_rank u2 u3 u4 s1.1 s6 s7
          have z' : ab_ri h1 w2 ((i.toInt.toNat : Nat) : Int) = y2.toInt := z
          rw [show ((i.toInt.toNat : Nat) : Int) = i.toInt by omega] at z'
          rw [s3, z']
    have e' : y1 = y2 := Int32.toInt_inj.mp e
    subst e'
    exact Or.inr ⟨y1, h1, n1, h2, n2, m1, m2, T1, fin h2 n2 Q2'⟩
  · obtain ⟨y1, m1, q1⟩ := ak_at (zs_says (l := l) (G := G) (d := 40) (by omega) HW a i c)
    obtain ⟨y2, m2, q2⟩ := ak_at (zr_says (l := l) (G := G) (d := 40) (by omega) HW a i (fun z => c ⟨(hE.1 a).mpr z.1, fun y => z.2 (hE.2.mp y)⟩))
    have e : y1.toInt = y2.toInt := by
      have E1 := hE.1 a
      have E2 := hE.2
      rcases q1 with ⟨s1, s2⟩ | ⟨s1, s2, s3⟩
      · rcases q2 with ⟨s4, s5⟩ | ⟨s4, s5, s6⟩
        · rw [s2, s5]
        · exact absurd (E1.mpr s4) s1
      · rcases q2 with ⟨s4, s5⟩ | ⟨s4, s5, s6⟩
        · exact absurd (E1.mp s1) s4
        · rw [s3, s6]
    have e' : y1 = y2 := Int32.toInt_inj.mp e
    subst e'
    exact Or.inl ⟨y1, h, n, m1, m2, hI⟩
theorem lx_3su (hI : lx_I h n cs ss) (a i : Int32) : lx_B3 l G mt_X10_sure mt_X11_sure [.ref 0, .int a, .int i] [.ref 542, .int a, .int i] h n cs ss := by
  have hE := lx_3e hI
  have HW := mc_HW_of hI.1
  by_cases c : st_c h a ∧ (0 ≤ i.toInt ∧ i.toInt < 20) ∧ ¬ st_s h
  · obtain ⟨p, R, sg, b, w, N, kk, K, W, S, ha, hk6, ck, hK, hc, nx⟩ := lx_3 hI a c.1 c.2.2
    obtain ⟨⟨r1, h1, n1⟩, m1, y1, e1, Q, p1⟩ := xs_sure (l := l) (G := G) (d := 40) (by omega) HW W S ha hk6 ck hK hc c.2.2 c.1 (i := i) c.2.1
    have e1' : r1 = some (.int y1) := e1
    have Q' : RSQ h n w p sg b K kk h1 n1 := Q
    subst e1'
    obtain ⟨T1, RT1, KZ, hG, src, nsr, fin⟩ := nx h1 n1 Q'
    obtain ⟨⟨r2, h2, n2⟩, m2, y2, e2, Q2, p2⟩ := xr_sure (l := l) (G := G) (d := 40) (by omega) (mc_HW_of T1) RT1 ha hk6 KZ hG src nsr (i := i) c.2.1
    have e2' : r2 = some (.int y2) := e2
    have Q2' : RFQ h1 n1 p sg b K h2 n2 := Q2
    subst e2'
    have e : y1.toInt = y2.toInt := by
      obtain ⟨-, -, ⟨w', N', W', C'⟩, -⟩ := Q'
      obtain ⟨-, -, ⟨⟨m, D⟩, TT⟩, -⟩ := Q2'
      have p1' : i.toInt < (p : Int) ∧ y1.toInt = ab_ri h1 33 i.toInt ∨ ¬ i.toInt < (p : Int) ∧ y1.toInt = -1 := p1
      have p2' : i.toInt < (p : Int) ∧ (ab_ri h2 570 i.toInt = 14 ∧ y2.toInt = -1 ∨ ab_ri h2 570 i.toInt ≠ 14 ∧ y2.toInt = ab_ri h2 570 i.toInt) ∨ ¬ i.toInt < (p : Int) ∧ y2.toInt = -1 := p2
      rcases p1' with ⟨s1, s2⟩ | ⟨s1, s2⟩
      · rcases p2' with ⟨-, s3⟩ | ⟨s3, -⟩
        · obtain ⟨u, -, -, -, cc⟩ := C'
          obtain ⟨t, ht⟩ : ∃ t : Nat, i.toInt = (t : Int) := ⟨i.toInt.toNat, by have := c.2.1.1; omega⟩
          have k1 := cc t (by omega)
          have k2 := TT t (by omega)
          rw [ht] at s2 s3
          have k3 := cf_sf k1 k2
          omega
        · exact absurd s1 s3
      · rcases p2' with ⟨s3, -⟩ | ⟨-, s3⟩
        · exact absurd s3 s1
        · rw [s2, s3]
    have e' : y1 = y2 := Int32.toInt_inj.mp e
    subst e'
    exact Or.inr ⟨y1, h1, n1, h2, n2, m1, m2, T1, fin h2 n2 Q2'⟩
  · obtain ⟨y1, m1, q1⟩ := ak_at (zs_sure (l := l) (G := G) (d := 40) (by omega) HW a i c)
    obtain ⟨y2, m2, q2⟩ := ak_at (zr_sure (l := l) (G := G) (d := 40) (by omega) HW a i (fun z => c ⟨(hE.1 a).mpr z.1, z.2.1, fun y => z.2.2 (hE.2.mp y)⟩))
    have e : y1.toInt = y2.toInt := by
      have E1 := hE.1 a
      have E2 := hE.2
      rcases q1 with ⟨s1, s2⟩ | ⟨s1, t1, s2⟩ | ⟨s1, t1, s2, s3⟩
      · rcases q2 with ⟨s4, s5⟩ | ⟨s4, t2, s5⟩ | ⟨s4, t2, s5, s6⟩
        · rw [s2, s5]
        · exact absurd (E1.mpr s4) s1
        · exact absurd (E1.mpr s4) s1
      · rcases q2 with ⟨s4, s5⟩ | ⟨s4, t2, s5⟩ | ⟨s4, t2, s5, s6⟩
        · exact absurd (E1.mp s1) s4
        · rw [s2, s5]
        · exact absurd t2 t1
      · rcases q2 with ⟨s4, s5⟩ | ⟨s4, t2, s5⟩ | ⟨s4, t2, s5, s6⟩
        · exact absurd (E1.mp s1) s4
        · exact absurd t1 t2
        · rw [s3, s6]
    have e' : y1 = y2 := Int32.toInt_inj.mp e
    subst e'
    exact Or.inl ⟨y1, h, n, m1, m2, hI⟩
end L3
