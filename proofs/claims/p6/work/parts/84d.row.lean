/-! ===== the end of a method by abstract states, from a place inside; row, exactly (ways printed by wip/v2/mk84d.py) ===== -/
/-- from a place inside, by what is told there, the method comes to one of its ends -/
theorem mc_tail {l : Launch} {G : ax_T} {mt : ab_MT} {cd : List (List Nat)} {CS : List ab_Q} {i : Nat} {Q : ab_Q} {mi : ax_MI} {cuts : List ab_CU} {pc : Nat} (hlow : ∀ c Q, c < i → CS[c]? = some Q → ab_QOk l G mt_prog Q) (hin : mi ∈ mt_prog) (hE : ab_chk1 mt_prog mt cd CS i Q mi cuts none pc Q.2.2.1 = true) (hC : ∀ c ∈ cuts, ab_chkC mt_prog mt cd CS i Q mi cuts c = true) {d : Nat} (hd' : Q.2.1 - 1 ≤ d) {V : List Value} {lv : List (Nat × Value)} {h : ax_H} {n : Nat} (hg : ab_g (V, h, n, Q.2.2.2.1) Q.2.2.1 V lv [] h n 0 0) :
    mc_R l G mi d (fun r h' n' => ∃ P ∈ Q.2.2.2.2, ∃ V' c' s', ab_g (V, h, n, Q.2.2.2.1) P V' [] r.toList h' n' c' s') (pc, lv, [], h, n, 0, 0) := by
  have hV : V.length ≤ Q.2.2.1.2.2.1.length := Nat.le_of_eq hg.2.2.1.1
  have main : ∀ (N : Nat), ∀ c ∈ cuts, ∀ (V1 : List Value) (lv : List (Nat × Value)) (st : List Value) (h' : ax_H) (n' cs ss : Nat), ab_enc V1 64 c.2.2 < N → ab_g (V, h, n, Q.2.2.2.1) c.2.1 V1 lv st h' n' cs ss → cs ≤ mi.2.2.2.2.2.2.1 → ss ≤ mi.2.2.2.2.2.2.2.1 → ab_good l G mi d (V, h, n, Q.2.2.2.1) Q.2.2.2.2 (c.1, lv, st, h', n', cs, ss) := by
    intro N
    induction N with
    | zero => intro c hc V1 lv st h' n' cs ss hN; omega
    | succ N ih =>
      intro c hc V1 lv st h' n' cs ss hN hg1 r1 r2
      have h1 := hC c hc
      unfold ab_chkC at h1
      simp only [Bool.and_eq_true, Nat.ble_eq] at h1
      obtain ⟨⟨hl, hv⟩, hs⟩ := h1
      refine ab_go1 mt_ok hlow hin hd' hV hs hg1.2.2.2.2.2.2.2.2 hg1 r1 r2 (fun c' hc' V2 lv2 st2 h2 n2 cs2 ss2 hg2 q1 q2 hm => ?_)
      have hlt := hm c.2.2 rfl hl (fun p hp => by
        have h3 := List.all_eq_true.mp hv p hp
        simp only [Bool.and_eq_true] at h3
        obtain ⟨a, ha⟩ := Option.isSome_iff_exists.mp h3.1
        obtain ⟨b, hb⟩ := Option.isSome_iff_exists.mp h3.2
        obtain ⟨x, hx⟩ := ab_iv_cv hg1.2.2.1 ha
        obtain ⟨y, hy⟩ := ab_iv_cv hg1.2.2.1 hb
        exact ⟨⟨_, hx⟩, ⟨_, hy⟩⟩)
      exact ih c' hc' V2 lv2 st2 h2 n2 cs2 ss2 (by omega) hg2 q1 q2
  obtain ⟨o, h1, h2, P, hP, V', c', s', h3⟩ := ab_go1 mt_ok hlow hin hd' hV hE (fun u v hu => hu) hg (Nat.zero_le _) (Nat.zero_le _) (fun c hc V1 lv st h' n' cs ss hg1 r1 r2 _ => main _ c hc V1 lv st h' n' cs ss (Nat.lt_succ_self _) hg1 r1 r2)
  exact ⟨o, h1, h2, P, hP, V', c', s', h3⟩
theorem mc_R_mono {l : Launch} {G : ax_T} {mi : ax_MI} {d : Nat} {Q Q' : Option Value → ax_H → Nat → Prop} {F : ax_F} (hR : mc_R l G mi d Q F) (hQ : ∀ r h' n', Q r h' n' → Q' r h' n') : mc_R l G mi d Q' F := by
  obtain ⟨o, h1, h2, h3⟩ := hR
  exact ⟨o, h1, h2, hQ _ _ _ h3⟩
theorem mc_isRow10 {l : Launch} {G : ax_T} {d : Nat} (hd : 1 ≤ d) (r : Int32) (h : ax_H) (n : Nat) : mc_M l G d mt_X10_isRow [.int r] h n (mc_P h n fun y => y.toInt = 1 ∧ (0 ≤ r.toInt ∧ r.toInt ≤ 11) ∨ y.toInt = 0 ∧ ¬ (0 ≤ r.toInt ∧ r.toInt ≤ 11)) := by
  obtain ⟨d, rfl⟩ : ∃ e, d = e + 1 := ⟨d - 1, by omega⟩
  have hmi : mt_X10_isRow ∈ mt_prog := List.mem_of_getElem? mi_X10_isRow
  refine mc_to hmi rfl ?_
  show mc_R _ _ _ _ _ (0, [(0, .int r)], [], h, n, 0, 0)
  refine mc_cx hmi 1 (F' := (1, [(0, .int r)], [.int r], h, n, 0, 0)) (by with_unfolding_all rfl) ?_
  refine mc_cz hmi (c := .lt) (tg := 14) (pc' := 4) rfl rfl rfl rfl (fun (q101 : r.toInt < 0) => ?_) (fun (q101 : 0 ≤ r.toInt) => ?_)
  · refine mc_cx hmi 1 (F' := (15, [(0, .int r)], [.int (Int32.ofInt 0)], h, n, 0, 0)) (by with_unfolding_all rfl) ?_
    exact mc_ret hmi rfl rfl (mc_rb (by decide)) ⟨rfl, rfl, _, rfl, Or.inr ⟨by decide, by omega⟩⟩
  · refine mc_cx hmi 2 (F' := (7, [(0, .int r)], [.int (Int8.ofInt 12).toInt32, .int r], h, n, 0, 0)) (by with_unfolding_all rfl) ?_
    refine mc_ci hmi (c := .ge) (tg := 14) (pc' := 10) rfl rfl rfl rfl (by decide) (fun (q102 : 12 ≤ r.toInt) => ?_) (fun (q102 : r.toInt < 12) => ?_)
    · refine mc_cx hmi 1 (F' := (15, [(0, .int r)], [.int (Int32.ofInt 0)], h, n, 0, 0)) (by with_unfolding_all rfl) ?_
      exact mc_ret hmi rfl rfl (mc_rb (by decide)) ⟨rfl, rfl, _, rfl, Or.inr ⟨by decide, by omega⟩⟩
    · refine mc_cx hmi 2 (F' := (15, [(0, .int r)], [.int (Int32.ofInt 1)], h, n, 0, 0)) (by with_unfolding_all rfl) ?_
      exact mc_ret hmi rfl rfl (mc_rb (by decide)) ⟨rfl, rfl, _, rfl, Or.inl ⟨by decide, by omega⟩⟩
/-- the page is a row of signs -/
def pg_row (f : Int → Int) (L : Int) : Prop := (1 ≤ L ∧ L ≤ 24) ∧ ∀ t : Nat, (t : Int) < L → pg_s (f (t : Int)) ≠ -1
theorem pg_row_eq {f g : Int → Int} {L : Int} (e : ∀ t : Nat, (t : Int) < L → f (t : Int) = g (t : Int)) : pg_row f L → pg_row g L := fun h => ⟨h.1, fun t ht => by rw [← e t ht]; exact h.2 t ht⟩
theorem pg_sA_mem : ∀ (L : List Int) (i x : Int), pg_sA L i x ≠ -1 → x ∈ L
  | [], i, x, h => absurd rfl h
  | c :: L, i, x, h => by
    unfold pg_sA at h
    split at h
    · rename_i e
      have e' : c = x := e
      rw [e']; exact List.mem_cons_self
    · exact List.mem_cons_of_mem _ (pg_sA_mem L (i + 1) x h)
theorem pg_s_mem {x : Int} (h : pg_s x ≠ -1) : x ∈ ab_let := pg_sA_mem pg_L 0 x h
theorem pg_let_r : ∀ x ∈ ab_let, (67 : Int) ≤ x ∧ x ≤ 120 := by decide
set_option maxRecDepth 100000 in
theorem ir_loop {l : Launch} {G : ax_T} {d : Nat} {h : ax_H} {n : Nat} (hd : 9 ≤ d) (H : mc_HW h n) (h1 : 1 ≤ (ab_ri h 1 1)) (h24 : (ab_ri h 1 1) ≤ 24) : ∀ (c j : Nat) (i : Int32), (j : Int) + (c : Int) = (ab_ri h 1 1) → i.toInt = (j : Int) → (∀ t : Nat, t < j → pg_s ((ab_ri h 2) (t : Int)) ≠ -1) → mc_R l G mt_X4_isRowOfSigns d (mc_P h n fun y => y.toInt = 1 ∧ pg_row (ab_ri h 2) (ab_ri h 1 1) ∨ y.toInt = 0 ∧ ¬ pg_row (ab_ri h 2) (ab_ri h 1 1)) (21, [(0, .ref 1), (1, .int i)], [], h, n, 0, 0) := by
  have hmi : mt_X4_isRowOfSigns ∈ mt_prog := List.mem_of_getElem? mi_X4_isRowOfSigns
  intro c
  induction c with
  | zero =>
    intro j i hj hi hok
    refine mc_cx hmi 2 (F' := (23, [(0, .ref 1), (1, .int i)], [.ref 1, .int i], h, n, 0, 0)) (by with_unfolding_all rfl) ?_
    refine mc_geti hmi H (k := 1) (j := 1) (pc' := 26) rfl rfl rfl rfl (fun y103 (e104 : y103.toInt = ab_ri h 1 1) r105 r106 => ?_)
    rw [e104] at r105 r106
    refine mc_ci hmi (c := .ge) (tg := 49) (pc' := 29) rfl rfl rfl hi e104 (fun (q107 : ab_ri h 1 1 ≤ (j : Int)) => ?_) (fun (q107 : (j : Int) < ab_ri h 1 1) => ?_)
    · refine mc_cx hmi 1 (F' := (50, [(0, .ref 1), (1, .int i)], [.int (Int32.ofInt 1)], h, n, 0, 0)) (by with_unfolding_all rfl) ?_
      exact mc_ret hmi rfl rfl (mc_rb (by decide)) ⟨rfl, rfl, _, rfl, Or.inl ⟨by decide, ⟨h1, h24⟩, fun t ht => hok t (by omega)⟩⟩
    · exact absurd q107 (by omega)
  | succ c ih =>
    intro j i hj hi hok
    refine mc_cx hmi 2 (F' := (23, [(0, .ref 1), (1, .int i)], [.ref 1, .int i], h, n, 0, 0)) (by with_unfolding_all rfl) ?_
    refine mc_geti hmi H (k := 1) (j := 1) (pc' := 26) rfl rfl rfl rfl (fun y108 (e109 : y108.toInt = ab_ri h 1 1) r110 r111 => ?_)
    rw [e109] at r110 r111
    refine mc_ci hmi (c := .ge) (tg := 49) (pc' := 29) rfl rfl rfl hi e109 (fun (q112 : ab_ri h 1 1 ≤ (j : Int)) => ?_) (fun (q112 : (j : Int) < ab_ri h 1 1) => ?_)
    · exact absurd q112 (by omega)
    · refine mc_cx hmi 1 (F' := (30, [(0, .ref 1), (1, .int i)], [.ref 1], h, n, 0, 0)) (by with_unfolding_all rfl) ?_
      refine mc_getr hmi H (k := 1) (c := 2) (pc' := 33) rfl rfl rfl rfl rfl ?_
      refine mc_cx hmi 1 (F' := (34, [(0, .ref 1), (1, .int i)], [.int i, .ref 2], h, n, 0, 0)) (by with_unfolding_all rfl) ?_
      refine mc_iald hmi H (k := 2) (i := (j : Int)) (pc' := 35) rfl rfl rfl hi (by omega) (by omega) rfl (fun y113 e114 r115 r116 => ?_)
      rw [e114] at r115 r116
      refine mc_callP hmi (en := (35, .invokestatic 23, 3, (4, 150, 0, 0), [497, 668])) rfl (q := (mt_X10_signOf, [.int y113], [])) (by with_unfolding_all rfl) ⟨rfl, rfl⟩ (pc' := 38) rfl (mc_sgn y113 (by omega) (by omega) (by omega)) (fun y117 e118 => ?_)
      rw [e114] at e118
      refine mc_cz hmi (c := .ge) (tg := 43) (pc' := 41) rfl rfl rfl e118 (fun (q119 : 0 ≤ pg_s ((ab_ri h 2) (j : Int))) => ?_) (fun (q119 : pg_s ((ab_ri h 2) (j : Int)) < 0) => ?_)
      · refine mc_cx hmi 2 (F' := (21, [(1, .int (i + Int32.ofInt 1)), (0, .ref 1)], [], h, n, 0, 0)) (by with_unfolding_all rfl) ?_
        have e120 : (i + Int32.ofInt 1).toInt = (j : Int) + 1 := mc_add hi (by decide) (by omega) (by omega)
        refine mc_lvs (lv' := [(0, .ref 1), (1, .int (i + Int32.ofInt 1))]) (by simp) ?_
        refine ih (j + 1) (i + Int32.ofInt 1) (by omega) (by rw [e120]; omega) (fun t ht => ?_)
        by_cases q : t = j
        · rw [q]; omega
        · exact hok t (by omega)
      · refine mc_cx hmi 1 (F' := (42, [(0, .ref 1), (1, .int i)], [.int (Int32.ofInt 0)], h, n, 0, 0)) (by with_unfolding_all rfl) ?_
        exact mc_ret hmi rfl rfl (mc_rb (by decide)) ⟨rfl, rfl, _, rfl, Or.inr ⟨by decide, fun z => z.2 j (by omega) (by have := pg_s_r ((ab_ri h 2) (j : Int)); omega)⟩⟩
set_option maxRecDepth 100000 in
theorem mc_isRowOfSigns {l : Launch} {G : ax_T} {d : Nat} {h : ax_H} {n : Nat} (hd : 10 ≤ d) (H : mc_HW h n) : mc_M l G d mt_X4_isRowOfSigns [.ref 1] h n (mc_P h n fun y => y.toInt = 1 ∧ pg_row (ab_ri h 2) (ab_ri h 1 1) ∨ y.toInt = 0 ∧ ¬ pg_row (ab_ri h 2) (ab_ri h 1 1)) := by
  obtain ⟨d, rfl⟩ : ∃ e, d = e + 1 := ⟨d - 1, by omega⟩
  have hmi : mt_X4_isRowOfSigns ∈ mt_prog := List.mem_of_getElem? mi_X4_isRowOfSigns
  refine mc_to hmi rfl ?_
  show mc_R _ _ _ _ _ (0, [(0, .ref 1)], [], h, n, 0, 0)
  refine mc_cx hmi 1 (F' := (1, [(0, .ref 1)], [.ref 1], h, n, 0, 0)) (by with_unfolding_all rfl) ?_
  refine mc_geti hmi H (k := 1) (j := 1) (pc' := 4) rfl rfl rfl rfl (fun y121 (e122 : y121.toInt = ab_ri h 1 1) r123 r124 => ?_)
  rw [e122] at r123 r124
  refine mc_cx hmi 1 (F' := (5, [(0, .ref 1)], [.int (Int32.ofInt 1), .int y121], h, n, 0, 0)) (by with_unfolding_all rfl) ?_
  refine mc_ci hmi (c := .lt) (tg := 17) (pc' := 8) rfl rfl rfl e122 (by decide) (fun (q125 : ab_ri h 1 1 < 1) => ?_) (fun (q125 : 1 ≤ ab_ri h 1 1) => ?_)
  · refine mc_cx hmi 1 (F' := (18, [(0, .ref 1)], [.int (Int32.ofInt 0)], h, n, 0, 0)) (by with_unfolding_all rfl) ?_
    exact mc_ret hmi rfl rfl (mc_rb (by decide)) ⟨rfl, rfl, _, rfl, Or.inr ⟨by decide, fun z => by have := z.1; omega⟩⟩
  · refine mc_cx hmi 1 (F' := (9, [(0, .ref 1)], [.ref 1], h, n, 0, 0)) (by with_unfolding_all rfl) ?_
    refine mc_geti hmi H (k := 1) (j := 1) (pc' := 12) rfl rfl rfl rfl (fun y126 (e127 : y126.toInt = ab_ri h 1 1) r128 r129 => ?_)
    rw [e127] at r128 r129
    refine mc_cx hmi 1 (F' := (14, [(0, .ref 1)], [.int (Int8.ofInt 24).toInt32, .int y126], h, n, 0, 0)) (by with_unfolding_all rfl) ?_
    refine mc_ci hmi (c := .le) (tg := 19) (pc' := 17) rfl rfl rfl e127 (by decide) (fun (q130 : ab_ri h 1 1 ≤ 24) => ?_) (fun (q130 : 24 < ab_ri h 1 1) => ?_)
    · refine mc_cx hmi 2 (F' := (21, [(1, .int (Int32.ofInt 0)), (0, .ref 1)], [], h, n, 0, 0)) (by with_unfolding_all rfl) ?_
      refine mc_lvs (lv' := [(0, .ref 1), (1, .int (Int32.ofInt 0))]) (by simp) ?_
      exact ir_loop (by omega) H (by omega) (by omega) (ab_ri h 1 1).toNat 0 _ (by omega) rfl (fun t ht => absurd ht (Nat.not_lt_zero t))
    · refine mc_cx hmi 1 (F' := (18, [(0, .ref 1)], [.int (Int32.ofInt 0)], h, n, 0, 0)) (by with_unfolding_all rfl) ?_
      exact mc_ret hmi rfl rfl (mc_rb (by decide)) ⟨rfl, rfl, _, rfl, Or.inr ⟨by decide, fun z => by have := z.1; omega⟩⟩
/-! ends of row, as data -/
def wq_0 : ab_Q := (54, 11, ([(0, av_k 1), (1, av_s 0)], [], [.inr (some 512), .inl (1, 24, 0)], [], [(av_k 1, av_c 1, av_s 1)], [(av_k 2, av_s 1, .inl (67, 120, 3))], 0, 0), [(8389632, (-2)), (4194816, 1)], [([], [], [.inr (some 512), .inl (1, 24, 0), .inl (0, 24, 0)], [(2, 1, 0), (1, 2, 0)], [(av_s 0, av_c 1, av_s 2), (av_k 1, av_c 1, av_s 1)], [], 0, 0)])  -- X4_copySigns
def wu_0 : ab_CU := (7, ([(0, av_k 1), (1, av_s 0), (2, av_s 2)], [], [.inr (some 512), .inl (1, 24, 0), .inl (0, 24, 0), .inl (0, 24, 0)], [(2, 1, 0), (2, 3, 0), (3, 2, 0)], [(av_k 1, av_c 1, av_s 1), (av_s 0, av_c 1, av_s 3)], [(av_k 2, av_s 1, .inl (67, 120, 3))], 0, 0), [(av_c 995, av_c 0), (av_c 80, av_s 2), (av_c 995, av_c 0)])
/-- X10_row from 23 on -/
def wq_1 : ab_Q := (107, 13, ([(0, av_k 0), (1, av_s 0)], [], [.inl (0, 11, 0), .inl (1, 24, 0)], [], [(av_k 1, av_c 1, av_s 1)], [(av_k 2, av_s 1, .inl (67, 120, 3))], 0, 0), [(8389632, (-2)), (4194818, 1)], [([], [av_s 2], [.inl (0, 11, 0), .inl (1, 24, 0), .inl (0, 24, 0)], [(2, 1, 0), (1, 2, 0)], [(av_k 1, av_c 1, av_c 0)], [], 0, 0)])  -- X10_row
/-- X11_row from 68 on -/
def wq_2 : ab_Q := (163, 12, ([(0, av_k 542), (1, av_s 0)], [], [.inl (0, 11, 0), .inl (1, 24, 0)], [], [(av_k 542, av_c 2, av_s 1)], [(av_k 545, av_s 1, .inl (67, 120, 3))], 0, 0), [(1729382256910270464, (-2)), (4503599627370496, 2)], [([], [av_s 1], [.inl (0, 11, 0), .inl (1, 24, 0)], [], [(av_k 542, av_c 2, av_c 0)], [], 0, 0)])  -- X11_row
def wu_2 : ab_CU := (80, ([(0, av_k 542), (1, av_s 0), (3, av_s 2)], [], [.inl (0, 11, 0), .inl (1, 24, 0), .inl (0, 24, 0)], [(2, 1, 0)], [(av_k 549, av_s 0, av_s 1), (av_k 542, av_c 8, av_k 549), (av_k 542, av_c 2, av_s 1)], [(av_k 545, av_s 1, .inl (67, 120, 3))], 0, 0), [(av_c 955, av_c 0), (av_c 24, av_s 2), (av_c 955, av_c 0)])
def w_mt : ab_MT := cs_mt.set 58 (false, true, [])
def w_cs : List ab_Q := cs_all ++ [wq_0, wq_1, wq_2]
def w_cd : List (List Nat) := cs_cd.set 54 [222]
set_option maxRecDepth 100000 in
theorem wk_0 : ab_chkE mt_prog w_mt w_cd w_cs 222 wq_0 mt_X4_copySigns [wu_0] = true := by decide +kernel
set_option maxRecDepth 100000 in
theorem wk_0c : ab_chkC mt_prog w_mt w_cd w_cs 222 wq_0 mt_X4_copySigns [wu_0] wu_0 = true := by decide +kernel
set_option maxRecDepth 100000 in
theorem wk_1 : ab_chk1 mt_prog w_mt w_cd w_cs 223 wq_1 mt_X10_row [] none 23 wq_1.2.2.1 = true := by decide +kernel
set_option maxRecDepth 100000 in
theorem wk_2 : ab_chk1 mt_prog cs_mt cs_cd cs_all 222 wq_2 mt_X11_row [wu_2] none 68 wq_2.2.2.1 = true := by decide +kernel
set_option maxRecDepth 100000 in
theorem wk_2c : ab_chkC mt_prog cs_mt cs_cd cs_all 222 wq_2 mt_X11_row [wu_2] wu_2 = true := by decide +kernel
theorem wy_1 {l : Launch} {G : ax_T} (H : ab_Hand l G) : ∀ c Q, c < 223 → w_cs[c]? = some Q → ab_QOk l G mt_prog Q := by
  have h0 : ∀ c Q, c < 222 → w_cs[c]? = some Q → ab_QOk l G mt_prog Q := fun c Q hc hQ => by
    unfold w_cs at hQ
    rw [List.getElem?_append_left (show c < cs_all.length from hc)] at hQ
    exact cy_222 H c Q hc hQ
  exact ab_up (q := wq_0) h0 rfl (ab_con_ok mt_ok h0 mi_X4_copySigns rfl wk_0 (fun c hc => by rw [List.mem_singleton] at hc; subst hc; exact wk_0c))
/-- the letters of a row, as a segment -/
theorem pg_seg {k : Nat} {f : Int → Int} {h : ax_H} {n : Nat} {L : Int32} (hf : ∀ t : Nat, (t : Int) < L.toInt → ∃ y : Int32, ab_rd h k (t : Int) = some (.int y) ∧ y.toInt = f (t : Int)) (hr : pg_row f L.toInt) : ∀ i : Int, 0 ≤ i → i < L.toInt → ∃ w, ab_rd h k i = some w ∧ ab_ok n w (.inl (67, 120, 3)) := by
  intro i h0 h1
  obtain ⟨y, e1, e2⟩ := hf i.toNat (by omega)
  rw [show ((i.toNat : Nat) : Int) = i by omega] at e1 e2
  have hm := pg_s_mem (hr.2 i.toNat (by omega))
  rw [show ((i.toNat : Nat) : Int) = i by omega, ← e2] at hm
  have := pg_let_r _ hm
  exact ⟨_, e1, y, rfl, this.1, this.2, hm⟩
theorem mc_rdi {h : ax_H} {n k N f : Nat} {lo hi : Int} {σ : List ab_Y} {t : Nat} (H : mc_HW h n) (ht : Nat.blt t 2 = true) (hk : Nat.blt k 573 = true) (hf : ab_K[ab_k k]? = some (.inl (t, N, N, .inl (lo, hi, f), σ))) (i : Nat) (hi' : i < N) : ∃ y : Int32, ab_rd h k (i : Int) = some (.int y) ∧ y.toInt = ab_ri h k (i : Int) := by
  obtain ⟨g, h1, h2, h3⟩ := mc_arr H hk hf ht
  obtain ⟨⟨y, e1, -⟩, -, e⟩ := h3 i hi'
  refine ⟨_, e, ?_⟩
  unfold ab_ri
  rw [e]
theorem mc_fdi {h : ax_H} {n k ci j f : Nat} {lo hi : Int} (H : mc_HW h n) (hk : Nat.blt k 573 = true) (hf : mc_ft k j = some (ci, .inl (lo, hi, f))) : ∃ y : Int32, ab_rd h k (j : Int) = some (.int y) ∧ y.toInt = ab_ri h k (j : Int) := by
  obtain ⟨fs, v, h1, h2, ⟨x, rfl, h3, h4, -⟩, h5⟩ := mc_fld H hk hf
  refine ⟨x, h5, ?_⟩
  unfold ab_ri
  rw [h5]
theorem ab_eq2 {V : List Value} {C : List (Nat × Nat × Int)} (hC : ab_co V C) {a b : Nat} (h1 : (a, b, (0 : Int)) ∈ C) (h2 : (b, a, (0 : Int)) ∈ C) {x y : Int32} (hx : V[a]? = some (.int x)) (hy : V[b]? = some (.int y)) : x = y := by
  obtain ⟨u, v, a1, a2, a3⟩ := hC _ h1
  obtain ⟨u', v', b1, b2, b3⟩ := hC _ h2
  have e1 : some (Value.int u) = some (.int x) := a1.symm.trans hx
  have e2 : some (Value.int v) = some (.int y) := a2.symm.trans hy
  have e3 : some (Value.int u') = some (.int y) := b1.symm.trans hy
  have e4 : some (Value.int v') = some (.int x) := b2.symm.trans hx
  cases e1; cases e2; cases e3; cases e4
  have a3' : x.toInt - y.toInt ≤ 0 := a3
  have b3' : y.toInt - x.toInt ≤ 0 := b3
  exact Int32.toInt_inj.mp (by omega)
set_option maxRecDepth 100000 in
theorem rw_X10 {l : Launch} {G : ax_T} {d : Nat} {h : ax_H} {n : Nat} (HA : ab_Hand l G) (hd : 13 ≤ d) (HT : ab_HT h n) (r : Int32) : mc_M l G d mt_X10_row [.ref 0, .int r] h n (fun r' h' n' => ∃ y : Int32, r' = some (.int y) ∧ ((¬ (0 ≤ r.toInt ∧ r.toInt ≤ 11) ∧ y = Int32.ofInt (-101) ∧ h' = h ∧ n' = n) ∨ ((0 ≤ r.toInt ∧ r.toInt ≤ 11) ∧ ¬ pg_row (ab_ri h 2) (ab_ri h 1 1) ∧ y = Int32.ofInt (-103) ∧ h' = h ∧ n' = n) ∨ ((0 ≤ r.toInt ∧ r.toInt ≤ 11) ∧ pg_row (ab_ri h 2) (ab_ri h 1 1) ∧ y.toInt = (ab_ri h 1 1) ∧ ab_HT h' n' ∧ ab_rd h' 1 1 = some (.int (Int32.ofInt 0)) ∧ pb_f wq_1.2.2.2.1 n h h'))) := by
  obtain ⟨d, rfl⟩ : ∃ e, d = e + 1 := ⟨d - 1, by omega⟩
  have hmi : mt_X10_row ∈ mt_prog := List.mem_of_getElem? mi_X10_row
  have H := mc_HW_of HT
  refine mc_to hmi rfl ?_
  show mc_R _ _ _ _ _ (0, [(0, .ref 0), (1, .int r)], [], h, n, 0, 0)
  refine mc_cx hmi 1 (F' := (1, [(0, .ref 0), (1, .int r)], [.int r], h, n, 0, 0)) (by with_unfolding_all rfl) ?_
  refine mc_callP hmi (en := (1, .invokestatic 118, 3, (3, 140, 0, 0), [662, 661])) rfl (q := (mt_X10_isRow, [.int r], [])) (by with_unfolding_all rfl) ⟨rfl, rfl⟩ (pc' := 4) rfl (mc_isRow10 (by omega) r h n) (fun y131 e132 => ?_)
  refine mc_cz hmi (c := .ne) (tg := 10) (pc' := 7) rfl rfl rfl rfl (fun (q133 : y131.toInt ≠ 0) => ?_) (fun (q133 : y131.toInt = 0) => ?_)
  · have hin : 0 ≤ r.toInt ∧ r.toInt ≤ 11 := by omega
    refine mc_cx hmi 1 (F' := (11, [(0, .ref 0), (1, .int r)], [.ref 0], h, n, 0, 0)) (by with_unfolding_all rfl) ?_
    refine mc_getr hmi H (k := 0) (c := 1) (pc' := 14) rfl rfl rfl rfl rfl ?_
    refine mc_callP hmi (en := (14, .invokevirtual 121, 3, (4, 53, 4, 0), [666, 11, 664])) rfl (q := (mt_X4_isRowOfSigns, [.ref 1], [])) (mc_inv H (as := []) (rest := []) rfl (by with_unfolding_all rfl) rfl rfl rfl) ⟨rfl, rfl⟩ (pc' := 17) rfl (mc_isRowOfSigns (by omega) H) (fun y134 e135 => ?_)
    refine mc_cz hmi (c := .ne) (tg := 23) (pc' := 20) rfl rfl rfl rfl (fun (q136 : y134.toInt ≠ 0) => ?_) (fun (q136 : y134.toInt = 0) => ?_)
    · have hrow := e135.elim (fun q => q.2) (fun q => absurd q.1 q136)
      obtain ⟨L, r1, r2⟩ := mc_fdi H (k := 1) (j := 1) (ci := 4) rfl rfl
      have r2' : L.toInt = ab_ri h 1 1 := r2
      have hbl := hrow.1
      rw [← r2'] at hrow hbl
      have hty : ab_ty n [.int r, .int L] [.inl (0, 11, 0), .inl (1, 24, 0)] := pt_two (x := L) (lo := 1) (hi := 24) (by omega) (by omega) (pt_one (x := r) (lo := 0) (hi := 11) (by omega) (by omega))
      refine mc_lvs (lv' := [(0, .ref 0), (1, .int r)]) (by simp) ?_
      refine mc_R_mono (mc_tail (i := 223) (Q := wq_1) (wy_1 HA) hmi wk_1 (fun c hc => nomatch hc) (by show 12 ≤ _; omega) (V := [.int r, .int L]) ⟨?_, trivial, hty, fun q hq => (nomatch (show q ∈ [] from hq)), ?_, ?_, ⟨rfl, rfl⟩, ⟨HT, fun k _ i _ => rfl, Nat.le_refl _⟩, fun u v hu => hu⟩) ?_
      · intro k a hk
        match k, hk with
        | 0, hk => have e : some (av_k 0) = some a := hk; cases e; exact ⟨_, rfl, rfl⟩
        | 1, hk => have e : some (av_s 0) = some a := hk; cases e; exact ⟨_, rfl, rfl⟩
        | k + 2, hk => have e : (none : Option ab_V) = some a := hk; cases e
      · intro q hq
        replace hq : q ∈ [(av_k 1, av_c 1, av_s 1)] := hq
        rw [List.mem_singleton] at hq
        subst hq
        exact Or.inl ⟨1, Int32.ofInt 1, .int L, rfl, rfl, rfl, r1⟩
      · intro q hq
        replace hq : q ∈ [(av_k 2, av_s 1, (.inl (67, 120, 3) : ab_Y))] := hq
        rw [List.mem_singleton] at hq
        subst hq
        exact ⟨2, L, rfl, rfl, pg_seg (f := ab_ri h 2) (fun t ht => mc_rdi H rfl (k := 2) rfl rfl t (by omega)) hrow⟩
      · intro r' h' n' hq
        obtain ⟨P, hP, V', c', s', g1, g2, g3, g4, g5, g6, g7, g8, g9⟩ := hq
        rw [show wq_1.2.2.2.2 = [wq_1.2.2.2.2.head (by decide)] from rfl, List.mem_singleton] at hP
        subst hP
        have e2 : V'[1]? = some (.int L) := g9 1 _ rfl
        obtain ⟨v, e3, y, rfl, -⟩ := g3.2 2 _ rfl
        have e4 := ab_eq2 g4 (a := 2) (b := 1) List.mem_cons_self (List.mem_cons_of_mem _ List.mem_cons_self) e3 e2
        match r', g2 with
        | none, g2 => exact (show False from g2).elim
        | some v, g2 =>
          have e5 : some v = some (.int y) := g2.1.symm.trans e3
          cases e5
          exact ⟨y, rfl, Or.inr (Or.inr ⟨hin, by rw [← r2']; exact hrow, by rw [e4]; exact r2', g8.1, pq_rd g5 (k := 1) (i := 1) (v := av_c 0) List.mem_cons_self rfl rfl, pb_f_of g8.2.1⟩)⟩
    · refine mc_cx hmi 1 (F' := (22, [(0, .ref 0), (1, .int r)], [.int (Int8.ofInt (-103)).toInt32], h, n, 0, 0)) (by with_unfolding_all rfl) ?_
      exact mc_ret hmi rfl rfl rfl ⟨_, rfl, Or.inr (Or.inl ⟨hin, e135.elim (fun q => by omega) (fun q => q.2), by decide, rfl, rfl⟩)⟩
  · refine mc_cx hmi 1 (F' := (9, [(0, .ref 0), (1, .int r)], [.int (Int8.ofInt (-101)).toInt32], h, n, 0, 0)) (by with_unfolding_all rfl) ?_
    exact mc_ret hmi rfl rfl rfl ⟨_, rfl, Or.inl ⟨by omega, by decide, rfl, rfl⟩⟩
def rw_Q (h : ax_H) (n : Nat) (r : Int32) : Option Value → ax_H → Nat → Prop := (fun r' h' n' => ∃ y : Int32, r' = some (.int y) ∧ ((¬ (0 ≤ r.toInt ∧ r.toInt ≤ 11) ∧ y = Int32.ofInt (-101) ∧ h' = h ∧ n' = n) ∨ ((0 ≤ r.toInt ∧ r.toInt ≤ 11) ∧ ¬ pg_row (ab_ri h 545) (ab_ri h 542 2) ∧ y = Int32.ofInt (-103) ∧ h' = h ∧ n' = n) ∨ ((0 ≤ r.toInt ∧ r.toInt ≤ 11) ∧ pg_row (ab_ri h 545) (ab_ri h 542 2) ∧ y.toInt = (ab_ri h 542 2) ∧ ab_HT h' n' ∧ ab_rd h' 542 2 = some (.int (Int32.ofInt 0)) ∧ pb_f wq_2.2.2.2.1 n h h')))
set_option maxRecDepth 100000 in
theorem rw_end {l : Launch} {G : ax_T} {d : Nat} {h : ax_H} {n : Nat} (HA : ab_Hand l G) (hd : 12 ≤ d) (HT : ab_HT h n) (r q i : Int32) (hin : 0 ≤ r.toInt ∧ r.toInt ≤ 11) (hq : q.toInt = 1 ∧ pg_row (ab_ri h 545) (ab_ri h 542 2) ∨ q.toInt = 0 ∧ ¬ pg_row (ab_ri h 545) (ab_ri h 542 2)) : mc_R l G mt_X11_row d (rw_Q h n r) (61, [(0, .ref 542), (1, .int r), (2, .int q), (3, .int i)], [], h, n, 0, 0) := by
  have hmi : mt_X11_row ∈ mt_prog := List.mem_of_getElem? mi_X11_row
  have H := mc_HW_of HT
  refine mc_cx hmi 1 (F' := (62, [(0, .ref 542), (1, .int r), (2, .int q), (3, .int i)], [.int q], h, n, 0, 0)) (by with_unfolding_all rfl) ?_
  refine mc_cz hmi (c := .ne) (tg := 68) (pc' := 65) rfl rfl rfl rfl (fun (q137 : q.toInt ≠ 0) => ?_) (fun (q137 : q.toInt = 0) => ?_)
  · have hrow := hq.elim (fun z => z.2) (fun z => absurd z.1 q137)
    obtain ⟨L, r1, r2⟩ := mc_fdi H (k := 542) (j := 2) (ci := 11) rfl rfl
    have r2' : L.toInt = ab_ri h 542 2 := r2
    have hbl := hrow.1
    rw [← r2'] at hrow hbl
    have hty : ab_ty n [.int r, .int L] [.inl (0, 11, 0), .inl (1, 24, 0)] := pt_two (x := L) (lo := 1) (hi := 24) (by omega) (by omega) (pt_one (x := r) (lo := 0) (hi := 11) (by omega) (by omega))
    refine mc_lvs (lv' := [(0, .ref 542), (1, .int r)]) (by simp) ?_
    refine mc_R_mono (mc_tail (i := 222) (Q := wq_2) (cy_222 HA) hmi wk_2 (fun c hc => by rw [List.mem_singleton] at hc; subst hc; exact wk_2c) (by show 11 ≤ _; omega) (V := [.int r, .int L]) ⟨?_, trivial, hty, fun q hq => (nomatch (show q ∈ [] from hq)), ?_, ?_, ⟨rfl, rfl⟩, ⟨HT, fun k _ i _ => rfl, Nat.le_refl _⟩, fun u v hu => hu⟩) ?_
    · intro k a hk
      match k, hk with
      | 0, hk => have e : some (av_k 542) = some a := hk; cases e; exact ⟨_, rfl, rfl⟩
      | 1, hk => have e : some (av_s 0) = some a := hk; cases e; exact ⟨_, rfl, rfl⟩
      | k + 2, hk => have e : (none : Option ab_V) = some a := hk; cases e
    · intro q hq
      replace hq : q ∈ [(av_k 542, av_c 2, av_s 1)] := hq
      rw [List.mem_singleton] at hq
      subst hq
      exact Or.inl ⟨542, Int32.ofInt 2, .int L, rfl, rfl, rfl, r1⟩
    · intro q hq
      replace hq : q ∈ [(av_k 545, av_s 1, (.inl (67, 120, 3) : ab_Y))] := hq
      rw [List.mem_singleton] at hq
      subst hq
      exact ⟨545, L, rfl, rfl, pg_seg (f := ab_ri h 545) (fun t ht => mc_rdi H rfl (k := 545) rfl rfl t (by omega)) hrow⟩
    · intro r' h' n' hq
      obtain ⟨P, hP, V', c', s', g1, g2, g3, g4, g5, g6, g7, g8, g9⟩ := hq
      rw [show wq_2.2.2.2.2 = [wq_2.2.2.2.2.head (by decide)] from rfl, List.mem_singleton] at hP
      subst hP
      have e2 : V'[1]? = some (.int L) := g9 1 _ rfl
      match r', g2 with
      | none, g2 => exact (show False from g2).elim
      | some v, g2 =>
        have e5 : some v = some (.int L) := g2.1.symm.trans e2
        cases e5
        exact ⟨L, rfl, Or.inr (Or.inr ⟨hin, by rw [← r2']; exact hrow, r2', g8.1, pq_rd g5 (k := 542) (i := 2) (v := av_c 0) List.mem_cons_self rfl rfl, pb_f_of g8.2.1⟩)⟩
  · refine mc_cx hmi 1 (F' := (67, [(0, .ref 542), (1, .int r), (2, .int q), (3, .int i)], [.int (Int8.ofInt (-103)).toInt32], h, n, 0, 0)) (by with_unfolding_all rfl) ?_
    exact mc_ret hmi rfl rfl rfl ⟨_, rfl, Or.inr (Or.inl ⟨hin, hq.elim (fun z => by omega) (fun z => z.2), by decide, rfl, rfl⟩)⟩
set_option maxRecDepth 100000 in
theorem rw_loop {l : Launch} {G : ax_T} {d : Nat} {h : ax_H} {n : Nat} (HA : ab_Hand l G) (hd : 12 ≤ d) (HT : ab_HT h n) (r : Int32) (hin : 0 ≤ r.toInt ∧ r.toInt ≤ 11) : ∀ (c j : Nat) (q i : Int32), (j : Int) + (c : Int) = (ab_ri h 542 2) → i.toInt = (j : Int) → (q.toInt = 1 ∧ (1 ≤ (ab_ri h 542 2) ∧ (ab_ri h 542 2) ≤ 24) ∧ (∀ t : Nat, t < j → pg_s ((ab_ri h 545) (t : Int)) ≠ -1) ∨ q.toInt = 0 ∧ ¬ pg_row (ab_ri h 545) (ab_ri h 542 2)) → mc_R l G mt_X11_row d (rw_Q h n r) (23, [(0, .ref 542), (1, .int r), (2, .int q), (3, .int i)], [], h, n, 0, 0) := by
  have hmi : mt_X11_row ∈ mt_prog := List.mem_of_getElem? mi_X11_row
  have H := mc_HW_of HT
  have hlen : 0 ≤ ab_ri h 542 2 ∧ ab_ri h 542 2 ≤ 80 := mc_frng H (k := 542) (j := 2) (ci := 11) rfl rfl
  intro c
  induction c with
  | zero =>
    intro j q i hj hi hq
    refine mc_cx hmi 2 (F' := (25, [(0, .ref 542), (1, .int r), (2, .int q), (3, .int i)], [.ref 542, .int i], h, n, 0, 0)) (by with_unfolding_all rfl) ?_
    refine mc_geti hmi H (k := 542) (j := 2) (pc' := 28) rfl rfl rfl rfl (fun y138 (e139 : y138.toInt = ab_ri h 542 2) r140 r141 => ?_)
    rw [e139] at r140 r141
    refine mc_ci hmi (c := .ge) (tg := 61) (pc' := 31) rfl rfl rfl hi e139 (fun (q142 : ab_ri h 542 2 ≤ (j : Int)) => ?_) (fun (q142 : (j : Int) < ab_ri h 542 2) => ?_)
    · refine mc_lvs (lv' := [(0, .ref 542), (1, .int r), (2, .int q), (3, .int i)]) (by simp) ?_
      exact rw_end HA hd HT r q i hin (hq.imp (fun z => ⟨z.1, z.2.1, fun t ht => z.2.2 t (by omega)⟩) id)
    · exact absurd q142 (by omega)
  | succ c ih =>
    intro j q i hj hi hq
    refine mc_cx hmi 2 (F' := (25, [(0, .ref 542), (1, .int r), (2, .int q), (3, .int i)], [.ref 542, .int i], h, n, 0, 0)) (by with_unfolding_all rfl) ?_
    refine mc_geti hmi H (k := 542) (j := 2) (pc' := 28) rfl rfl rfl rfl (fun y143 (e144 : y143.toInt = ab_ri h 542 2) r145 r146 => ?_)
    rw [e144] at r145 r146
    refine mc_ci hmi (c := .ge) (tg := 61) (pc' := 31) rfl rfl rfl hi e144 (fun (q147 : ab_ri h 542 2 ≤ (j : Int)) => ?_) (fun (q147 : (j : Int) < ab_ri h 542 2) => ?_)
    · exact absurd q147 (by omega)
    · refine mc_cx hmi 1 (F' := (32, [(0, .ref 542), (1, .int r), (2, .int q), (3, .int i)], [.int q], h, n, 0, 0)) (by with_unfolding_all rfl) ?_
      refine mc_cz hmi (c := .eq) (tg := 61) (pc' := 35) rfl rfl rfl rfl (fun (q148 : q.toInt = 0) => ?_) (fun (q148 : q.toInt ≠ 0) => ?_)
      · refine mc_lvs (lv' := [(0, .ref 542), (1, .int r), (2, .int q), (3, .int i)]) (by simp) ?_
        exact rw_end HA hd HT r q i hin (hq.elim (fun z => absurd z.1 (by omega)) (fun z => Or.inr z))
      · have hq1 := hq.elim (fun z => z) (fun z => absurd z.1 q148)
        refine mc_cx hmi 2 (F' := (37, [(0, .ref 542), (1, .int r), (2, .int q), (3, .int i)], [.ref 542, .ref 542], h, n, 0, 0)) (by with_unfolding_all rfl) ?_
        refine mc_getr hmi H (k := 542) (c := 545) (pc' := 40) rfl rfl rfl rfl rfl ?_
        refine mc_cx hmi 1 (F' := (41, [(0, .ref 542), (1, .int r), (2, .int q), (3, .int i)], [.int i, .ref 545, .ref 542], h, n, 0, 0)) (by with_unfolding_all rfl) ?_
        refine mc_bald hmi H (k := 545) (i := (j : Int)) (pc' := 42) rfl rfl rfl hi (by omega) (by omega) rfl (fun y149 e150 r151 r152 => ?_)
        rw [e150] at r151 r152
        refine mc_callP hmi (en := (42, .invokevirtual 116, 3, (3, 155, 11, 0), [1288, 76, 1286])) rfl (q := (mt_X11_signOf, [.ref 542, .int y149], [])) (mc_inv H (as := [.int y149]) (rest := []) rfl (by with_unfolding_all rfl) rfl rfl rfl) ⟨rfl, rfl⟩ (pc' := 45) rfl (mc_signOfE (by omega) H y149) (fun y153 e154 => ?_)
        rw [e150] at e154
        refine mc_cx hmi 1 (F' := (46, [(0, .ref 542), (1, .int r), (2, .int q), (3, .int i)], [.int (Int32.ofInt (-1)), .int y153], h, n, 0, 0)) (by with_unfolding_all rfl) ?_
        refine mc_ci hmi (c := .eq) (tg := 53) (pc' := 49) rfl rfl rfl e154 (by decide) (fun (q155 : pg_s ((ab_ri h 545) (j : Int)) = (-1)) => ?_) (fun (q155 : pg_s ((ab_ri h 545) (j : Int)) ≠ (-1)) => ?_)
        · refine mc_cx hmi 4 (F' := (23, [(3, .int (i + Int32.ofInt 1)), (2, .int (Int32.ofInt 0)), (0, .ref 542), (1, .int r)], [], h, n, 0, 0)) (by with_unfolding_all rfl) ?_
          have e156 : (i + Int32.ofInt 1).toInt = (j : Int) + 1 := mc_add hi (by decide) (by omega) (by omega)
          refine mc_lvs (lv' := [(0, .ref 542), (1, .int r), (2, .int (Int32.ofInt 0)), (3, .int (i + Int32.ofInt 1))]) (by simp) ?_
          exact ih (j + 1) (Int32.ofInt 0) (i + Int32.ofInt 1) (by omega) (by rw [e156]; omega) (Or.inr ⟨by decide, fun z => z.2 j (by omega) q155⟩)
        · refine mc_cx hmi 5 (F' := (23, [(3, .int (i + Int32.ofInt 1)), (2, .int (Int32.ofInt 1)), (0, .ref 542), (1, .int r)], [], h, n, 0, 0)) (by with_unfolding_all rfl) ?_
          have e157 : (i + Int32.ofInt 1).toInt = (j : Int) + 1 := mc_add hi (by decide) (by omega) (by omega)
          refine mc_lvs (lv' := [(0, .ref 542), (1, .int r), (2, .int (Int32.ofInt 1)), (3, .int (i + Int32.ofInt 1))]) (by simp) ?_
          exact ih (j + 1) (Int32.ofInt 1) (i + Int32.ofInt 1) (by omega) (by rw [e157]; omega) (Or.inl ⟨by decide, hq1.2.1, fun t ht => by by_cases u : t = j; (rw [u]; exact q155); exact hq1.2.2 t (by omega)⟩)
set_option maxRecDepth 100000 in
theorem rw_X11 {l : Launch} {G : ax_T} {d : Nat} {h : ax_H} {n : Nat} (HA : ab_Hand l G) (hd : 13 ≤ d) (HT : ab_HT h n) (r : Int32) : mc_M l G d mt_X11_row [.ref 542, .int r] h n (rw_Q h n r) := by
  obtain ⟨d, rfl⟩ : ∃ e, d = e + 1 := ⟨d - 1, by omega⟩
  have hmi : mt_X11_row ∈ mt_prog := List.mem_of_getElem? mi_X11_row
  have H := mc_HW_of HT
  have hlen : 0 ≤ ab_ri h 542 2 ∧ ab_ri h 542 2 ≤ 80 := mc_frng H (k := 542) (j := 2) (ci := 11) rfl rfl
  refine mc_to hmi rfl ?_
  show mc_R _ _ _ _ _ (0, [(0, .ref 542), (1, .int r)], [], h, n, 0, 0)
  refine mc_cx hmi 1 (F' := (1, [(0, .ref 542), (1, .int r)], [.int r], h, n, 0, 0)) (by with_unfolding_all rfl) ?_
  refine mc_callP hmi (en := (1, .invokestatic 142, 3, (3, 162, 0, 0), [1314, 1313])) rfl (q := (mt_X11_isRow, [.int r], [])) (by with_unfolding_all rfl) ⟨rfl, rfl⟩ (pc' := 4) rfl (mc_isRow (by omega) r h n) (fun y158 e159 => ?_)
  refine mc_cz hmi (c := .ne) (tg := 10) (pc' := 7) rfl rfl rfl rfl (fun (q160 : y158.toInt ≠ 0) => ?_) (fun (q160 : y158.toInt = 0) => ?_)
  · have hin : 0 ≤ r.toInt ∧ r.toInt ≤ 11 := by omega
    refine mc_cx hmi 1 (F' := (11, [(0, .ref 542), (1, .int r)], [.ref 542], h, n, 0, 0)) (by with_unfolding_all rfl) ?_
    refine mc_geti hmi H (k := 542) (j := 2) (pc' := 14) rfl rfl rfl rfl (fun y161 (e162 : y161.toInt = ab_ri h 542 2) r163 r164 => ?_)
    rw [e162] at r163 r164
    refine mc_cx hmi 2 (F' := (17, [(0, .ref 542), (1, .int r)], [.int (Int8.ofInt 24).toInt32, .int (Int32.ofInt 1), .int y161], h, n, 0, 0)) (by with_unfolding_all rfl) ?_
    refine mc_callP hmi (en := (17, .invokestatic 120, 3, (3, 152, 0, 0), [1291, 1290])) rfl (q := (mt_X11_in, [.int y161, .int (Int32.ofInt 1), .int (Int8.ofInt 24).toInt32], [])) (by with_unfolding_all rfl) ⟨rfl, rfl⟩ (pc' := 20) rfl (mc_inP (by omega) y161 (Int32.ofInt 1) (Int8.ofInt 24).toInt32 h n) (fun y165 e166 => ?_)
    have hq : y165.toInt = 1 ∧ (1 ≤ (ab_ri h 542 2) ∧ (ab_ri h 542 2) ≤ 24) ∨ y165.toInt = 0 ∧ ¬ (1 ≤ (ab_ri h 542 2) ∧ (ab_ri h 542 2) ≤ 24) := by
      rw [e162] at e166
      exact e166
    refine mc_cx hmi 3 (F' := (23, [(3, .int (Int32.ofInt 0)), (2, .int y165), (0, .ref 542), (1, .int r)], [], h, n, 0, 0)) (by with_unfolding_all rfl) ?_
    refine mc_lvs (lv' := [(0, .ref 542), (1, .int r), (2, .int y165), (3, .int (Int32.ofInt 0))]) (by simp) ?_
    exact rw_loop HA (by omega) HT r hin (ab_ri h 542 2).toNat 0 y165 _ (by omega) rfl (hq.imp (fun z => ⟨z.1, z.2, fun t ht => absurd ht (Nat.not_lt_zero t)⟩) (fun z => ⟨z.1, fun u => z.2 u.1⟩))
  · refine mc_cx hmi 1 (F' := (9, [(0, .ref 542), (1, .int r)], [.int (Int8.ofInt (-101)).toInt32], h, n, 0, 0)) (by with_unfolding_all rfl) ?_
    exact mc_ret hmi rfl rfl rfl ⟨_, rfl, Or.inl ⟨by omega, by decide, rfl, rfl⟩⟩
