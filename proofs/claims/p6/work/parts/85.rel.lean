/-! ===== what stands at the loop's head, between class and reference: lines, rows noted, the page (printed by wip/v2/mk85b.py) ===== -/
def lx_L0 : List (Nat × Int) := [(0, 10)]
def lx_L : List (Nat × Int) := [(35, 4), (542, 20)]
def lx_N : List (Nat × Int) := (List.range 6).flatMap fun (m : Nat) => [(34, (m : Int)), (170 + 62 * m, 1), (555, (m : Int))]
/-- places of which it speaks, but for the stones read -/
def lx_P : List (Nat × Int) := [(1, 1), (542, 2), (0, 8), (542, 4)] ++ (List.range 80).flatMap fun (t : Nat) => [(2, (t : Int)), (545, (t : Int))]
/-- the customs' cells of the class; of the reference -/
def lx_C0 : List (Nat × Int) := (List.range 6).flatMap fun (k : Nat) => [(3, (k : Int)), (122 + 4 * k, 0), (122 + 4 * k, 1), (122 + 4 * k, 2)] ++ (List.range 14).flatMap fun (t : Nat) => [(123 + 4 * k, (t : Int)), (124 + 4 * k, (t : Int)), (125 + 4 * k, (t : Int))]
def lx_C1 : List (Nat × Int) := (List.range 6).flatMap fun (k : Nat) => (List.range 14).flatMap fun (t : Nat) => [(546, 14 * (k : Int) + (t : Int)), (547, 14 * (k : Int) + (t : Int)), (548, 14 * (k : Int) + (t : Int))]
def lx_K1 : List (Nat × Int) := lx_L ++ (lx_N ++ (lx_P ++ (lx_C0 ++ lx_C1)))
def lx_K : List (Nat × Int) := lx_L0 ++ lx_K1
def lx_RL (h : ax_H) : Prop := ∃ c : Int32, ab_rd h 35 4 = some (.int c) ∧ ab_rd h 542 20 = some (.int c) ∧ 0 ≤ c.toInt ∧ c.toInt ≤ 20
def lx_RN (h : ax_H) : Prop := nt_34 h ∧ ∃ c : Nat → Int32, nt_c true h c ∧ nt_c false h c
/-- a custom of both holds the same; one not yet written holds nothing -/
def lx_sm (h : ax_H) (k : Nat) : Prop := ∀ t : Nat, t < 14 → ∃ x y z : Int32, (ab_rd h (123 + 4 * k) (t : Int) = some (.int x) ∧ ab_rd h (124 + 4 * k) (t : Int) = some (.int y) ∧ ab_rd h (125 + 4 * k) (t : Int) = some (.int z)) ∧ ab_rd h 546 (14 * (k : Int) + (t : Int)) = some (.int x) ∧ ab_rd h 547 (14 * (k : Int) + (t : Int)) = some (.int y) ∧ ab_rd h 548 (14 * (k : Int) + (t : Int)) = some (.int z)
def lx_ze (h : ax_H) (k : Nat) : Prop := ∀ t : Nat, t < 14 → ab_rd h (123 + 4 * k) (t : Int) = some (.int (Int32.ofInt 0)) ∧ ab_rd h (124 + 4 * k) (t : Int) = some (.int (Int32.ofInt 0)) ∧ ab_rd h (125 + 4 * k) (t : Int) = some (.int (Int32.ofInt 0))
def lx_cu1 (h : ax_H) (C : Int) (k : Nat) : Prop := pg_ck h k ∧ ((k : Int) < C → lx_sm h k) ∧ (C ≤ (k : Int) → lx_ze h k)
def lx_RC (h : ax_H) (C : Int) : Prop := ∀ k : Nat, k < 6 → lx_cu1 h C k
/-- the page: its length, its letters; how many customs there are, and what they hold -/
def lx_RP (h : ax_H) : Prop := ∃ (L C : Int32) (f : Nat → Int32), ab_rd h 1 1 = some (.int L) ∧ ab_rd h 542 2 = some (.int L) ∧ ab_rd h 0 8 = some (.int C) ∧ ab_rd h 542 4 = some (.int C) ∧ (0 ≤ L.toInt ∧ L.toInt ≤ 80) ∧ (∀ t : Nat, (t : Int) < L.toInt → ab_rd h 2 (t : Int) = some (.int (f t)) ∧ ab_rd h 545 (t : Int) = some (.int (f t))) ∧ lx_RC h C.toInt
def lx_R (h : ax_H) : Prop := lx_RL h ∧ lx_RN h ∧ lx_RP h
theorem kpt_l {L L' : List (Nat × Int)} {h h' : ax_H} (k : kpt (L ++ L') h h') : kpt L h h' := fun q hq => k q (List.mem_append_left _ hq)
theorem kpt_r {L L' : List (Nat × Int)} {h h' : ax_H} (k : kpt (L ++ L') h h') : kpt L' h h' := fun q hq => k q (List.mem_append_right _ hq)
theorem lx_N_in {q : Nat × Int} (j : Nat) (hj : j < 6) (hq : q = (34, (j : Int)) ∨ q = (170 + 62 * j, 1) ∨ q = (555, (j : Int))) : q ∈ lx_N := by
  refine List.mem_flatMap.mpr ⟨j, List.mem_range.mpr hj, ?_⟩
  rcases hq with rfl | rfl | rfl
  · exact List.mem_cons_self
  · exact List.mem_cons_of_mem _ List.mem_cons_self
  · exact List.mem_cons_of_mem _ (List.mem_cons_of_mem _ List.mem_cons_self)
theorem lx_RL_k {h h' : ax_H} (k : kpt lx_L h h') (r : lx_RL h) : lx_RL h' := by
  obtain ⟨c, a1, a2, a3⟩ := r
  exact ⟨c, (k (35, 4) List.mem_cons_self).trans a1, (k (542, 20) (List.mem_cons_of_mem _ List.mem_cons_self)).trans a2, a3⟩
theorem nt_34_k {h h' : ax_H} (k : kpt lx_N h h') (r : nt_34 h) : nt_34 h' := fun j hj => (k (34, (j : Int)) (lx_N_in j hj (Or.inl rfl))).trans (r j hj)
theorem nt_c_k {B : Bool} {h h' : ax_H} {c : Nat → Int32} (k : ∀ j, j < 6 → ab_rd h' (nt_P B j).1 (nt_P B j).2 = ab_rd h (nt_P B j).1 (nt_P B j).2) (r : nt_c B h c) : nt_c B h' c := fun j hj => ⟨(k j hj).trans (r j hj).1, (r j hj).2⟩
theorem lx_RN_k {h h' : ax_H} (k : kpt lx_N h h') (r : lx_RN h) : lx_RN h' := by
  obtain ⟨r1, c, r2, r3⟩ := r
  exact ⟨nt_34_k k r1, c, nt_c_k (fun j hj => k (170 + 62 * j, 1) (lx_N_in j hj (Or.inr (Or.inl rfl)))) r2, nt_c_k (fun j hj => k (555, (j : Int)) (lx_N_in j hj (Or.inr (Or.inr rfl)))) r3⟩
theorem lx_P_in {q : Nat × Int} (t : Nat) (ht : t < 80) (hq : q = (2, (t : Int)) ∨ q = (545, (t : Int))) : q ∈ lx_P := by
  refine List.mem_append_right _ (List.mem_flatMap.mpr ⟨t, List.mem_range.mpr ht, ?_⟩)
  rcases hq with rfl | rfl
  · exact List.mem_cons_self
  · exact List.mem_cons_of_mem _ List.mem_cons_self
theorem lx_C0_r {k : Nat} (hk : k < 6) {q : Nat × Int} (hq : q ∈ [((3 : Nat), (k : Int)), (122 + 4 * k, 0), (122 + 4 * k, 1), (122 + 4 * k, 2)]) : q ∈ lx_C0 := List.mem_flatMap.mpr ⟨k, List.mem_range.mpr hk, List.mem_append_left _ hq⟩
theorem lx_C0_in {k t : Nat} (hk : k < 6) (ht : t < 14) {q : Nat × Int} (hq : q ∈ [(123 + 4 * k, (t : Int)), (124 + 4 * k, (t : Int)), (125 + 4 * k, (t : Int))]) : q ∈ lx_C0 := List.mem_flatMap.mpr ⟨k, List.mem_range.mpr hk, List.mem_append_right _ (List.mem_flatMap.mpr ⟨t, List.mem_range.mpr ht, hq⟩)⟩
theorem lx_C1_in {k t : Nat} (hk : k < 6) (ht : t < 14) {q : Nat × Int} (hq : q ∈ [((546 : Nat), 14 * (k : Int) + (t : Int)), (547, 14 * (k : Int) + (t : Int)), (548, 14 * (k : Int) + (t : Int))]) : q ∈ lx_C1 := List.mem_flatMap.mpr ⟨k, List.mem_range.mpr hk, List.mem_flatMap.mpr ⟨t, List.mem_range.mpr ht, hq⟩⟩
theorem pg_ck_k {h h' : ax_H} {k : Nat} (e3 : ab_rd h' 3 (k : Int) = ab_rd h 3 (k : Int)) (e0 : ab_rd h' (122 + 4 * k) 0 = ab_rd h (122 + 4 * k) 0) (e1 : ab_rd h' (122 + 4 * k) 1 = ab_rd h (122 + 4 * k) 1) (e2 : ab_rd h' (122 + 4 * k) 2 = ab_rd h (122 + 4 * k) 2) (r : pg_ck h k) : pg_ck h' k := by
  obtain ⟨r0, u1, u2, u3, u4, u5, u6, u7, u8⟩ := r
  exact ⟨e3.trans r0, u1, u2, u3, u4, u5, e0.trans u6, e1.trans u7, e2.trans u8⟩
theorem lx_cu1_of {h h' : ax_H} {C : Int} {k : Nat} (hk : k < 6) (k0 : ∀ q : Nat × Int, q ∈ [((3 : Nat), (k : Int)), (122 + 4 * k, 0), (122 + 4 * k, 1), (122 + 4 * k, 2)] → ab_rd h' q.1 q.2 = ab_rd h q.1 q.2) (kt : ∀ t : Nat, t < 14 → ∀ q : Nat × Int, q ∈ [(123 + 4 * k, (t : Int)), (124 + 4 * k, (t : Int)), (125 + 4 * k, (t : Int))] → ab_rd h' q.1 q.2 = ab_rd h q.1 q.2) (k1 : (k : Int) < C → ∀ t : Nat, t < 14 → ∀ q : Nat × Int, q ∈ [((546 : Nat), 14 * (k : Int) + (t : Int)), (547, 14 * (k : Int) + (t : Int)), (548, 14 * (k : Int) + (t : Int))] → ab_rd h' q.1 q.2 = ab_rd h q.1 q.2) (r : lx_cu1 h C k) : lx_cu1 h' C k := by
  obtain ⟨r1, r2, r3⟩ := r
  have m1 : ∀ {a b c : Nat × Int}, a ∈ [a, b, c] := List.mem_cons_self
  have m2 : ∀ {a b c : Nat × Int}, b ∈ [a, b, c] := List.mem_cons_of_mem _ List.mem_cons_self
  have m3 : ∀ {a b c : Nat × Int}, c ∈ [a, b, c] := List.mem_cons_of_mem _ (List.mem_cons_of_mem _ List.mem_cons_self)
  refine ⟨pg_ck_k (k0 _ List.mem_cons_self) (k0 _ (List.mem_cons_of_mem _ List.mem_cons_self)) (k0 _ (List.mem_cons_of_mem _ (List.mem_cons_of_mem _ List.mem_cons_self))) (k0 _ (List.mem_cons_of_mem _ (List.mem_cons_of_mem _ (List.mem_cons_of_mem _ List.mem_cons_self)))) r1, fun hc t ht => ?_, fun hc t ht => ?_⟩
  · obtain ⟨x, y, z, ⟨a, b, c⟩, a', b', c'⟩ := r2 hc t ht
    exact ⟨x, y, z, ⟨(kt t ht _ m1).trans a, (kt t ht _ m2).trans b, (kt t ht _ m3).trans c⟩, (k1 hc t ht _ m1).trans a', (k1 hc t ht _ m2).trans b', (k1 hc t ht _ m3).trans c'⟩
  · obtain ⟨a, b, c⟩ := r3 hc t ht
    exact ⟨(kt t ht _ m1).trans a, (kt t ht _ m2).trans b, (kt t ht _ m3).trans c⟩
theorem lx_RC_of {h h' : ax_H} {C : Int} (k0 : kpt lx_C0 h h') (k1 : ∀ k : Nat, k < 6 → (k : Int) < C → ∀ t : Nat, t < 14 → ∀ q : Nat × Int, q ∈ [((546 : Nat), 14 * (k : Int) + (t : Int)), (547, 14 * (k : Int) + (t : Int)), (548, 14 * (k : Int) + (t : Int))] → ab_rd h' q.1 q.2 = ab_rd h q.1 q.2) (r : lx_RC h C) : lx_RC h' C := fun k hk => lx_cu1_of hk (fun q hq => k0 q (lx_C0_r hk hq)) (fun t ht q hq => k0 q (lx_C0_in hk ht hq)) (k1 k hk) (r k hk)
theorem lx_RC_k {h h' : ax_H} {C : Int} (k : kpt (lx_C0 ++ lx_C1) h h') (r : lx_RC h C) : lx_RC h' C := lx_RC_of (kpt_l k) (fun k' hk _ t ht q hq => kpt_r k q (lx_C1_in hk ht hq)) r
/-- a custom not yet written, as reading needs it -/
theorem lx_K0 {h : ax_H} {k : Nat} {f : Int → Int} (r : lx_ze h k) : pg_K h (123 + 4 * k) (124 + 4 * k) (125 + 4 * k) 0 f 0 := fun t ht => by
  rw [Int.zero_add]
  exact r t ht
theorem lx_RP_k {h h' : ax_H} (kk : kpt (lx_P ++ (lx_C0 ++ lx_C1)) h h') (r : lx_RP h) : lx_RP h' := by
  have k := kpt_l kk
  obtain ⟨L, C, f, a1, a2, a3, a4, a5, a6, a7⟩ := r
  refine ⟨L, C, f, (k (1, 1) List.mem_cons_self).trans a1, (k (542, 2) (List.mem_cons_of_mem _ List.mem_cons_self)).trans a2, (k (0, 8) (List.mem_cons_of_mem _ (List.mem_cons_of_mem _ List.mem_cons_self))).trans a3, (k (542, 4) (List.mem_cons_of_mem _ (List.mem_cons_of_mem _ (List.mem_cons_of_mem _ List.mem_cons_self)))).trans a4, a5, fun t ht => ?_, lx_RC_k (kpt_r kk) a7⟩
  exact ⟨(k (2, (t : Int)) (lx_P_in t (by omega) (Or.inl rfl))).trans (a6 t ht).1, (k (545, (t : Int)) (lx_P_in t (by omega) (Or.inr rfl))).trans (a6 t ht).2⟩
theorem lx_R_k {h h' : ax_H} (k : kpt lx_K1 h h') (r : lx_R h) : lx_R h' := ⟨lx_RL_k (kpt_l k) r.1, lx_RN_k (kpt_l (kpt_r k)) r.2.1, lx_RP_k (kpt_r (kpt_r k)) r.2.2⟩
theorem lx_0 {h h' : ax_H} (k : kpt lx_L0 h h') : ab_ri h' 0 10 = ab_ri h 0 10 := ab_ri_of (k (0, 10) List.mem_cons_self)
/-- what stands at the loop's head: cells as their kinds say; costs by the stones that were read; the relation -/
def lx_I (h : ax_H) (n cs ss : Nat) : Prop := ab_HT h n ∧ (cs : Int) ≤ 573 + ab_ri h 0 10 ∧ (ss : Int) ≤ 192706 + 41160 * ab_ri h 0 10 ∧ lx_R h
/-- a call of both, the class's first: one answer, and all stands again -/
def lx_B (l : Launch) (G : ax_T) (m1 m2 : ax_MI) (a1 a2 : List Value) (h : ax_H) (n cs ss : Nat) : Prop := ∃ (x : Int32) (h1 : ax_H) (n1 : Nat) (h2 : ax_H) (n2 : Nat), ab_M l G 40 m1 a1 h n (some (.int x), h1, n1) ∧ ab_M l G 40 m2 a2 h1 n1 (some (.int x), h2, n2) ∧ ab_HT h1 n1 ∧ lx_I h2 n2 cs ss
section LR
variable {l : Launch} {G : ax_T} {h h1 h2 : ax_H} {n n1 cs ss : Nat}
theorem lx_I_of {n2 : Nat} {M1 M2 : List (Nat × Int)} (hI : lx_I h n cs ss) (f1 : pb_f M1 n h h1) (t1 : ab_HT h1 n1) (f2 : pb_f M2 n1 h1 h2) (t2 : ab_HT h2 n2) (k1 : kp_md lx_L0 M1 = true) (k2 : kp_md lx_L0 M2 = true) (r : lx_R h2) : lx_I h2 n2 cs ss := by
  have e : ab_ri h2 0 10 = ab_ri h 0 10 := (lx_0 (kp_of k2 f2 t1.1)).trans (lx_0 (kp_of k1 f1 hI.1.1))
  exact ⟨t2, by rw [e]; exact hI.2.1, by rw [e]; exact hI.2.2.1, r⟩
/-- two calls that answer alike and change nothing -/
theorem lx_BC {m1 m2 : ax_MI} {a1 a2 : List Value} {x : Int32} (hI : lx_I h n cs ss) (e1 : ec_S l G m1 a1 h n [] x) (e2 : ∀ (h1 : ax_H) (n1 : Nat), ab_HT h1 n1 → pb_f [] n h h1 → ec_S l G m2 a2 h1 n1 [] x) : lx_B l G m1 m2 a1 a2 h n cs ss := by
  obtain ⟨h1, n1, m1, t1, f1⟩ := e1
  obtain ⟨h2, n2, m2, t2, f2⟩ := e2 h1 n1 t1 f1
  exact ⟨x, h1, n1, h2, n2, m1, m2, t1, lx_I_of hI f1 t1 f2 t2 (by decide +kernel) (by decide +kernel) (lx_R_k (kp_of (by decide +kernel) f2 t1.1) (lx_R_k (kp_of (by decide +kernel) f1 hI.1.1) hI.2.2.2))⟩
theorem lx_tr (H : ab_Hand l G) (hI : lx_I h n cs ss) : lx_B l G mt_X10_tear mt_X11_tear [.ref 0] [.ref 542] h n cs ss := by
  have hI' := hI
  obtain ⟨hT, -, -, ⟨c, a1, a2, l0, l20⟩, rN, rP⟩ := hI'
  obtain ⟨h1, n1, m1, t1, e1, f1⟩ := tr_X10 H hT a1 l0 l20
  obtain ⟨h2, n2, m2, t2, e2, f2⟩ := tr_X11 H t1 ((f1 542 (by have := hT.1; omega) 20 (by decide) (by decide +kernel)).trans a2) l0 l20
  exact ⟨c, h1, n1, h2, n2, m1, m2, t1, lx_I_of hI f1 t1 f2 t2 (by decide +kernel) (by decide +kernel) ⟨⟨Int32.ofInt 0, (f2 35 (by have := t1.1; omega) 4 (by decide) (by decide +kernel)).trans e1, e2, by decide, by decide⟩, lx_RN_k (kp_of (by decide +kernel) f2 t1.1) (lx_RN_k (kp_of (by decide +kernel) f1 hT.1) rN), lx_RP_k (kp_of (by decide +kernel) f2 t1.1) (lx_RP_k (kp_of (by decide +kernel) f1 hT.1) rP)⟩⟩
theorem ln_C_le (a t : Int32) {c : Int32} (l0 : 0 ≤ c.toInt) (l20 : c.toInt ≤ 20) : 0 ≤ (ln_C a t c).toInt ∧ (ln_C a t c).toInt ≤ 20 := by
  unfold ln_C
  split
  · split
    · exact ⟨l0, l20⟩
    · rw [Int32.toInt_ofInt_of_le (by omega) (by omega)]
      omega
  · exact ⟨l0, l20⟩
theorem lx_ln (H : ab_Hand l G) (hI : lx_I h n cs ss) (a t : Int32) : lx_B l G mt_X10_line mt_X11_line [.ref 0, .int a, .int t] [.ref 542, .int a, .int t] h n cs ss := by
  have hI' := hI
  obtain ⟨hT, -, -, ⟨c, a1, a2, l0, l20⟩, rN, rP⟩ := hI'
  obtain ⟨h1, n1, m1, t1, e1, f1⟩ := ln_X10 H hT a t a1 l0 l20
  obtain ⟨h2, n2, m2, t2, e2, f2⟩ := ln_X11 H t1 a t ((f1 542 (by have := hT.1; omega) 20 (by decide) (by decide +kernel)).trans a2) l0 l20
  exact ⟨_, h1, n1, h2, n2, m1, m2, t1, lx_I_of hI f1 t1 f2 t2 (by decide +kernel) (by decide +kernel) ⟨⟨ln_C a t c, (f2 35 (by have := t1.1; omega) 4 (by decide) (by decide +kernel)).trans e1, e2, ln_C_le a t l0 l20⟩, lx_RN_k (kp_of (by decide +kernel) f2 t1.1) (lx_RN_k (kp_of (by decide +kernel) f1 hT.1) rN), lx_RP_k (kp_of (by decide +kernel) f2 t1.1) (lx_RP_k (kp_of (by decide +kernel) f1 hT.1) rP)⟩⟩
/-- places of the reference alone, of the class alone, of the masons' cells -/
def lx_N1 : List (Nat × Int) := (List.range 6).map fun (m : Nat) => (555, (m : Int))
def lx_N0 : List (Nat × Int) := (List.range 6).map fun (m : Nat) => (170 + 62 * m, 1)
def lx_N4 : List (Nat × Int) := (List.range 6).map fun (m : Nat) => (34, (m : Int))
theorem kpt_m {h h' : ax_H} {f : Nat → Nat × Int} (k : kpt ((List.range 6).map f) h h') {j : Nat} (hj : j < 6) : ab_rd h' (f j).1 (f j).2 = ab_rd h (f j).1 (f j).2 := k (f j) (List.mem_map.mpr ⟨j, List.mem_range.mpr hj, rfl⟩)
theorem lx_nt_0 (H : ab_Hand l G) (hI : lx_I h n cs ss) (r : Int32) (hr0 : 0 ≤ r.toInt) (hr1 : r.toInt ≤ 11) : lx_B l G mt_X10_note mt_X11_note [.ref 0, .int (Int32.ofInt 0), .int r] [.ref 542, .int (Int32.ofInt 0), .int r] h n cs ss := by
  have hI' := hI
  obtain ⟨hT, -, -, rL, ⟨r34, c, c10, c11⟩, rP⟩ := hI'
  by_cases hf : (c 0).toInt = 30
  · have e30 : c 0 = Int32.ofInt 30 := Int32.toInt_inj.mp (by rw [hf]; rfl)
    have q10 := (c10 0 (by decide)).1
    have q11 := (c11 0 (by decide)).1
    rw [e30] at q10 q11
    refine lx_BC hI (nf_X10_0 H hT r34 r hr0 hr1 q10) (fun h1 n1 t1 f1 => nf_X11_0 H t1 r hr0 hr1 ?_)
    exact (f1 555 (by have := hT.1; omega) 0 (by decide) (by decide +kernel)).trans q11
  · have h29 : (c 0).toInt ≤ 29 := by have := (c10 0 (by decide)).2.2; omega
    obtain ⟨h1, n1, m1, t1, e1, f1⟩ := nt_X10_0 H hT r34 r hr0 hr1 c10 h29
    have k1 : kpt lx_N1 h h1 := kp_of (by decide +kernel) f1 hT.1
    have k4 : kpt lx_N4 h h1 := kp_of (by decide +kernel) f1 hT.1
    obtain ⟨h2, n2, m2, t2, e2, f2⟩ := nt_X11_0 H t1 r hr0 hr1 (nt_c_k (B := false) (fun j hj => kpt_m k1 hj) c11) h29
    have k0 : kpt lx_N0 h1 h2 := kp_of (by decide +kernel) f2 t1.1
    have k5 : kpt lx_N4 h1 h2 := kp_of (by decide +kernel) f2 t1.1
    exact ⟨_, h1, n1, h2, n2, m1, m2, t1, lx_I_of hI f1 t1 f2 t2 (by decide +kernel) (by decide +kernel) ⟨lx_RL_k (kp_of (by decide +kernel) f2 t1.1) (lx_RL_k (kp_of (by decide +kernel) f1 hT.1) rL), ⟨fun j hj => (kpt_m k5 hj).trans ((kpt_m k4 hj).trans (r34 j hj)), _, nt_c_k (B := true) (fun j hj => kpt_m k0 hj) e1, e2⟩, lx_RP_k (kp_of (by decide +kernel) f2 t1.1) (lx_RP_k (kp_of (by decide +kernel) f1 hT.1) rP)⟩⟩
theorem lx_nt_1 (H : ab_Hand l G) (hI : lx_I h n cs ss) (r : Int32) (hr0 : 0 ≤ r.toInt) (hr1 : r.toInt ≤ 11) : lx_B l G mt_X10_note mt_X11_note [.ref 0, .int (Int32.ofInt 1), .int r] [.ref 542, .int (Int32.ofInt 1), .int r] h n cs ss := by
  have hI' := hI
  obtain ⟨hT, -, -, rL, ⟨r34, c, c10, c11⟩, rP⟩ := hI'
  by_cases hf : (c 1).toInt = 30
  · have e30 : c 1 = Int32.ofInt 30 := Int32.toInt_inj.mp (by rw [hf]; rfl)
    have q10 := (c10 1 (by decide)).1
    have q11 := (c11 1 (by decide)).1
    rw [e30] at q10 q11
    refine lx_BC hI (nf_X10_1 H hT r34 r hr0 hr1 q10) (fun h1 n1 t1 f1 => nf_X11_1 H t1 r hr0 hr1 ?_)
    exact (f1 555 (by have := hT.1; omega) 1 (by decide) (by decide +kernel)).trans q11
  · have h29 : (c 1).toInt ≤ 29 := by have := (c10 1 (by decide)).2.2; omega
    obtain ⟨h1, n1, m1, t1, e1, f1⟩ := nt_X10_1 H hT r34 r hr0 hr1 c10 h29
    have k1 : kpt lx_N1 h h1 := kp_of (by decide +kernel) f1 hT.1
    have k4 : kpt lx_N4 h h1 := kp_of (by decide +kernel) f1 hT.1
    obtain ⟨h2, n2, m2, t2, e2, f2⟩ := nt_X11_1 H t1 r hr0 hr1 (nt_c_k (B := false) (fun j hj => kpt_m k1 hj) c11) h29
    have k0 : kpt lx_N0 h1 h2 := kp_of (by decide +kernel) f2 t1.1
    have k5 : kpt lx_N4 h1 h2 := kp_of (by decide +kernel) f2 t1.1
    exact ⟨_, h1, n1, h2, n2, m1, m2, t1, lx_I_of hI f1 t1 f2 t2 (by decide +kernel) (by decide +kernel) ⟨lx_RL_k (kp_of (by decide +kernel) f2 t1.1) (lx_RL_k (kp_of (by decide +kernel) f1 hT.1) rL), ⟨fun j hj => (kpt_m k5 hj).trans ((kpt_m k4 hj).trans (r34 j hj)), _, nt_c_k (B := true) (fun j hj => kpt_m k0 hj) e1, e2⟩, lx_RP_k (kp_of (by decide +kernel) f2 t1.1) (lx_RP_k (kp_of (by decide +kernel) f1 hT.1) rP)⟩⟩
theorem lx_nt_2 (H : ab_Hand l G) (hI : lx_I h n cs ss) (r : Int32) (hr0 : 0 ≤ r.toInt) (hr1 : r.toInt ≤ 11) : lx_B l G mt_X10_note mt_X11_note [.ref 0, .int (Int32.ofInt 2), .int r] [.ref 542, .int (Int32.ofInt 2), .int r] h n cs ss := by
  have hI' := hI
  obtain ⟨hT, -, -, rL, ⟨r34, c, c10, c11⟩, rP⟩ := hI'
  by_cases hf : (c 2).toInt = 30
  · have e30 : c 2 = Int32.ofInt 30 := Int32.toInt_inj.mp (by rw [hf]; rfl)
    have q10 := (c10 2 (by decide)).1
    have q11 := (c11 2 (by decide)).1
    rw [e30] at q10 q11
    refine lx_BC hI (nf_X10_2 H hT r34 r hr0 hr1 q10) (fun h1 n1 t1 f1 => nf_X11_2 H t1 r hr0 hr1 ?_)
    exact (f1 555 (by have := hT.1; omega) 2 (by decide) (by decide +kernel)).trans q11
  · have h29 : (c 2).toInt ≤ 29 := by have := (c10 2 (by decide)).2.2; omega
    obtain ⟨h1, n1, m1, t1, e1, f1⟩ := nt_X10_2 H hT r34 r hr0 hr1 c10 h29
    have k1 : kpt lx_N1 h h1 := kp_of (by decide +kernel) f1 hT.1
    have k4 : kpt lx_N4 h h1 := kp_of (by decide +kernel) f1 hT.1
    obtain ⟨h2, n2, m2, t2, e2, f2⟩ := nt_X11_2 H t1 r hr0 hr1 (nt_c_k (B := false) (fun j hj => kpt_m k1 hj) c11) h29
    have k0 : kpt lx_N0 h1 h2 := kp_of (by decide +kernel) f2 t1.1
    have k5 : kpt lx_N4 h1 h2 := kp_of (by decide +kernel) f2 t1.1
    exact ⟨_, h1, n1, h2, n2, m1, m2, t1, lx_I_of hI f1 t1 f2 t2 (by decide +kernel) (by decide +kernel) ⟨lx_RL_k (kp_of (by decide +kernel) f2 t1.1) (lx_RL_k (kp_of (by decide +kernel) f1 hT.1) rL), ⟨fun j hj => (kpt_m k5 hj).trans ((kpt_m k4 hj).trans (r34 j hj)), _, nt_c_k (B := true) (fun j hj => kpt_m k0 hj) e1, e2⟩, lx_RP_k (kp_of (by decide +kernel) f2 t1.1) (lx_RP_k (kp_of (by decide +kernel) f1 hT.1) rP)⟩⟩
theorem lx_nt_3 (H : ab_Hand l G) (hI : lx_I h n cs ss) (r : Int32) (hr0 : 0 ≤ r.toInt) (hr1 : r.toInt ≤ 11) : lx_B l G mt_X10_note mt_X11_note [.ref 0, .int (Int32.ofInt 3), .int r] [.ref 542, .int (Int32.ofInt 3), .int r] h n cs ss := by
  have hI' := hI
  obtain ⟨hT, -, -, rL, ⟨r34, c, c10, c11⟩, rP⟩ := hI'
  by_cases hf : (c 3).toInt = 30
  · have e30 : c 3 = Int32.ofInt 30 := Int32.toInt_inj.mp (by rw [hf]; rfl)
    have q10 := (c10 3 (by decide)).1
    have q11 := (c11 3 (by decide)).1
    rw [e30] at q10 q11
    refine lx_BC hI (nf_X10_3 H hT r34 r hr0 hr1 q10) (fun h1 n1 t1 f1 => nf_X11_3 H t1 r hr0 hr1 ?_)
    exact (f1 555 (by have := hT.1; omega) 3 (by decide) (by decide +kernel)).trans q11
  · have h29 : (c 3).toInt ≤ 29 := by have := (c10 3 (by decide)).2.2; omega
    obtain ⟨h1, n1, m1, t1, e1, f1⟩ := nt_X10_3 H hT r34 r hr0 hr1 c10 h29
    have k1 : kpt lx_N1 h h1 := kp_of (by decide +kernel) f1 hT.1
    have k4 : kpt lx_N4 h h1 := kp_of (by decide +kernel) f1 hT.1
    obtain ⟨h2, n2, m2, t2, e2, f2⟩ := nt_X11_3 H t1 r hr0 hr1 (nt_c_k (B := false) (fun j hj => kpt_m k1 hj) c11) h29
    have k0 : kpt lx_N0 h1 h2 := kp_of (by decide +kernel) f2 t1.1
    have k5 : kpt lx_N4 h1 h2 := kp_of (by decide +kernel) f2 t1.1
    exact ⟨_, h1, n1, h2, n2, m1, m2, t1, lx_I_of hI f1 t1 f2 t2 (by decide +kernel) (by decide +kernel) ⟨lx_RL_k (kp_of (by decide +kernel) f2 t1.1) (lx_RL_k (kp_of (by decide +kernel) f1 hT.1) rL), ⟨fun j hj => (kpt_m k5 hj).trans ((kpt_m k4 hj).trans (r34 j hj)), _, nt_c_k (B := true) (fun j hj => kpt_m k0 hj) e1, e2⟩, lx_RP_k (kp_of (by decide +kernel) f2 t1.1) (lx_RP_k (kp_of (by decide +kernel) f1 hT.1) rP)⟩⟩
theorem lx_nt_4 (H : ab_Hand l G) (hI : lx_I h n cs ss) (r : Int32) (hr0 : 0 ≤ r.toInt) (hr1 : r.toInt ≤ 11) : lx_B l G mt_X10_note mt_X11_note [.ref 0, .int (Int32.ofInt 4), .int r] [.ref 542, .int (Int32.ofInt 4), .int r] h n cs ss := by
  have hI' := hI
  obtain ⟨hT, -, -, rL, ⟨r34, c, c10, c11⟩, rP⟩ := hI'
  by_cases hf : (c 4).toInt = 30
  · have e30 : c 4 = Int32.ofInt 30 := Int32.toInt_inj.mp (by rw [hf]; rfl)
    have q10 := (c10 4 (by decide)).1
    have q11 := (c11 4 (by decide)).1
    rw [e30] at q10 q11
    refine lx_BC hI (nf_X10_4 H hT r34 r hr0 hr1 q10) (fun h1 n1 t1 f1 => nf_X11_4 H t1 r hr0 hr1 ?_)
    exact (f1 555 (by have := hT.1; omega) 4 (by decide) (by decide +kernel)).trans q11
  · have h29 : (c 4).toInt ≤ 29 := by have := (c10 4 (by decide)).2.2; omega
    obtain ⟨h1, n1, m1, t1, e1, f1⟩ := nt_X10_4 H hT r34 r hr0 hr1 c10 h29
    have k1 : kpt lx_N1 h h1 := kp_of (by decide +kernel) f1 hT.1
    have k4 : kpt lx_N4 h h1 := kp_of (by decide +kernel) f1 hT.1
    obtain ⟨h2, n2, m2, t2, e2, f2⟩ := nt_X11_4 H t1 r hr0 hr1 (nt_c_k (B := false) (fun j hj => kpt_m k1 hj) c11) h29
    have k0 : kpt lx_N0 h1 h2 := kp_of (by decide +kernel) f2 t1.1
    have k5 : kpt lx_N4 h1 h2 := kp_of (by decide +kernel) f2 t1.1
    exact ⟨_, h1, n1, h2, n2, m1, m2, t1, lx_I_of hI f1 t1 f2 t2 (by decide +kernel) (by decide +kernel) ⟨lx_RL_k (kp_of (by decide +kernel) f2 t1.1) (lx_RL_k (kp_of (by decide +kernel) f1 hT.1) rL), ⟨fun j hj => (kpt_m k5 hj).trans ((kpt_m k4 hj).trans (r34 j hj)), _, nt_c_k (B := true) (fun j hj => kpt_m k0 hj) e1, e2⟩, lx_RP_k (kp_of (by decide +kernel) f2 t1.1) (lx_RP_k (kp_of (by decide +kernel) f1 hT.1) rP)⟩⟩
theorem lx_nt_5 (H : ab_Hand l G) (hI : lx_I h n cs ss) (r : Int32) (hr0 : 0 ≤ r.toInt) (hr1 : r.toInt ≤ 11) : lx_B l G mt_X10_note mt_X11_note [.ref 0, .int (Int32.ofInt 5), .int r] [.ref 542, .int (Int32.ofInt 5), .int r] h n cs ss := by
  have hI' := hI
  obtain ⟨hT, -, -, rL, ⟨r34, c, c10, c11⟩, rP⟩ := hI'
  by_cases hf : (c 5).toInt = 30
  · have e30 : c 5 = Int32.ofInt 30 := Int32.toInt_inj.mp (by rw [hf]; rfl)
    have q10 := (c10 5 (by decide)).1
    have q11 := (c11 5 (by decide)).1
    rw [e30] at q10 q11
    refine lx_BC hI (nf_X10_5 H hT r34 r hr0 hr1 q10) (fun h1 n1 t1 f1 => nf_X11_5 H t1 r hr0 hr1 ?_)
    exact (f1 555 (by have := hT.1; omega) 5 (by decide) (by decide +kernel)).trans q11
  · have h29 : (c 5).toInt ≤ 29 := by have := (c10 5 (by decide)).2.2; omega
    obtain ⟨h1, n1, m1, t1, e1, f1⟩ := nt_X10_5 H hT r34 r hr0 hr1 c10 h29
    have k1 : kpt lx_N1 h h1 := kp_of (by decide +kernel) f1 hT.1
    have k4 : kpt lx_N4 h h1 := kp_of (by decide +kernel) f1 hT.1
    obtain ⟨h2, n2, m2, t2, e2, f2⟩ := nt_X11_5 H t1 r hr0 hr1 (nt_c_k (B := false) (fun j hj => kpt_m k1 hj) c11) h29
    have k0 : kpt lx_N0 h1 h2 := kp_of (by decide +kernel) f2 t1.1
    have k5 : kpt lx_N4 h1 h2 := kp_of (by decide +kernel) f2 t1.1
    exact ⟨_, h1, n1, h2, n2, m1, m2, t1, lx_I_of hI f1 t1 f2 t2 (by decide +kernel) (by decide +kernel) ⟨lx_RL_k (kp_of (by decide +kernel) f2 t1.1) (lx_RL_k (kp_of (by decide +kernel) f1 hT.1) rL), ⟨fun j hj => (kpt_m k5 hj).trans ((kpt_m k4 hj).trans (r34 j hj)), _, nt_c_k (B := true) (fun j hj => kpt_m k0 hj) e1, e2⟩, lx_RP_k (kp_of (by decide +kernel) f2 t1.1) (lx_RP_k (kp_of (by decide +kernel) f1 hT.1) rP)⟩⟩
theorem lx_nt (H : ab_Hand l G) (hI : lx_I h n cs ss) (a r : Int32) : lx_B l G mt_X10_note mt_X11_note [.ref 0, .int a, .int r] [.ref 542, .int a, .int r] h n cs ss := by
  by_cases ho : (0 ≤ a.toInt ∧ a.toInt ≤ 5) ∧ 0 ≤ r.toInt ∧ r.toInt ≤ 11
  · obtain ⟨⟨b0, b5⟩, hr0, hr1⟩ := ho
    have hm : a.toInt = 0 ∨ a.toInt = 1 ∨ a.toInt = 2 ∨ a.toInt = 3 ∨ a.toInt = 4 ∨ a.toInt = 5 := by omega
    rcases hm with e | e | e | e | e | e
    · obtain rfl : a = Int32.ofInt 0 := Int32.toInt_inj.mp (by rw [e]; rfl)
      exact lx_nt_0 H hI r hr0 hr1
    · obtain rfl : a = Int32.ofInt 1 := Int32.toInt_inj.mp (by rw [e]; rfl)
      exact lx_nt_1 H hI r hr0 hr1
    · obtain rfl : a = Int32.ofInt 2 := Int32.toInt_inj.mp (by rw [e]; rfl)
      exact lx_nt_2 H hI r hr0 hr1
    · obtain rfl : a = Int32.ofInt 3 := Int32.toInt_inj.mp (by rw [e]; rfl)
      exact lx_nt_3 H hI r hr0 hr1
    · obtain rfl : a = Int32.ofInt 4 := Int32.toInt_inj.mp (by rw [e]; rfl)
      exact lx_nt_4 H hI r hr0 hr1
    · obtain rfl : a = Int32.ofInt 5 := Int32.toInt_inj.mp (by rw [e]; rfl)
      exact lx_nt_5 H hI r hr0 hr1
  · exact lx_BC hI (no_X10 H hI.1 a r ho) (fun h1 n1 t1 _ => no_X11 H t1 a r ho)
theorem gq_eq {f g : Int → Int} : ∀ m : Nat, (∀ t : Nat, t < m → f (t : Int) = g (t : Int)) → gq f m = gq g m
  | 0, _ => rfl
  | m + 1, e => by
    show gq f m + (if f (m : Int) = 46 then 1 else 0) = gq g m + (if g (m : Int) = 46 then 1 else 0)
    rw [gq_eq m (fun t ht => e t (by omega)), e m (by omega)]
theorem pg_po_eq {f g : Int → Int} {L : Int} (e : ∀ t : Nat, (t : Int) < L → f (t : Int) = g (t : Int)) : pg_po f L = pg_po g L := by
  unfold pg_po
  by_cases h : 0 < L
  · have := e (L - 1).toNat (by omega)
    rw [show (((L - 1).toNat : Nat) : Int) = L - 1 by omega] at this
    rw [this]
  · rw [if_neg (fun z => h z.1), if_neg (fun z => h z.1)]
theorem pg_po_le (f : Int → Int) (L : Int) : pg_po f L ≤ L := by
  unfold pg_po
  split <;> omega
theorem pg_st_eq {f g : Int → Int} {L : Int} (e : ∀ t : Nat, (t : Int) < L → f (t : Int) = g (t : Int)) (h : pg_st f L) : pg_st g L := by
  have hl := pg_po_le f L
  unfold pg_st at h ⊢
  rw [← pg_po_eq e, ← gq_eq (pg_po f L).toNat (fun t ht => e t (by omega))]
  exact ⟨h.1, h.2.1, fun t ht => by rw [← e t (by omega)]; exact h.2.2.1 t ht, h.2.2.2⟩
theorem pg_wh_eq {f g : Int → Int} {L : Nat} (e : ∀ t : Nat, t < L → f (t : Int) = g (t : Int)) (h : pg_wh f L) : pg_wh g L := by
  unfold pg_wh at h ⊢
  rw [← pg_run_eq L e]
  exact h
theorem i32 {x y : Int32} {a b : Int} (hx : x.toInt = a) (hy : y.toInt = b) (e : a = b) : x = y := Int32.toInt_inj.mp (by rw [hx, hy, e])
theorem lx_RP_fr {h h' : ax_H} {C : Int32} (hc : ab_rd h 542 4 = some (.int C)) (k : kpt lx_P h h') (k0 : kpt lx_C0 h h') (f : ∀ (k' : Nat) (i' : Int), (k' = 546 ∨ k' = 547 ∨ k' = 548 → i' < 14 * C.toInt) → (k' = 542 → i' ≠ 25) → (k' = 542 → i' ≠ 26) → ab_rd h' k' i' = ab_rd h k' i') (r : lx_RP h) : lx_RP h' := by
  obtain ⟨L, C', f0, a1, a2, a3, a4, a5, a6, a7⟩ := r
  have e : some (Value.int C') = some (.int C) := a4.symm.trans hc
  cases e
  refine ⟨L, _, f0, (k (1, 1) List.mem_cons_self).trans a1, (k (542, 2) (List.mem_cons_of_mem _ List.mem_cons_self)).trans a2, (k (0, 8) (List.mem_cons_of_mem _ (List.mem_cons_of_mem _ List.mem_cons_self))).trans a3, (k (542, 4) (List.mem_cons_of_mem _ (List.mem_cons_of_mem _ (List.mem_cons_of_mem _ List.mem_cons_self)))).trans a4, a5, fun t ht => ⟨(k (2, (t : Int)) (lx_P_in t (by omega) (Or.inl rfl))).trans (a6 t ht).1, (k (545, (t : Int)) (lx_P_in t (by omega) (Or.inr rfl))).trans (a6 t ht).2⟩, lx_RC_of k0 (fun j hj hjc t ht q hq => ?_) a7⟩
  simp only [List.mem_cons, List.not_mem_nil, or_false] at hq
  rcases hq with rfl | rfl | rfl
  · exact f 546 (14 * (j : Int) + (t : Int)) (fun _ => by omega) (fun z => absurd z (by decide)) (fun z => absurd z (by decide))
  · exact f 547 (14 * (j : Int) + (t : Int)) (fun _ => by omega) (fun z => absurd z (by decide)) (fun z => absurd z (by decide))
  · exact f 548 (14 * (j : Int) + (t : Int)) (fun _ => by omega) (fun z => absurd z (by decide)) (fun z => absurd z (by decide))
set_option maxRecDepth 100000 in
theorem lx_C0_md : kp_md lx_C0 [(2, 1), (137438953472, 2), (1, 8)] = true := by decide +kernel
theorem lx_C0_fr {h h' : ax_H} {n k : Nat} (hn : 573 ≤ n) (f : cu_fr [(2, 1), (137438953472, 2), (1, 8)] n k h h') (q : Nat × Int) (hq : q ∈ lx_C0) (p1 : q.1 ≠ 123 + 4 * k) (p2 : q.1 ≠ 124 + 4 * k) (p3 : q.1 ≠ 125 + 4 * k) : ab_rd h' q.1 q.2 = ab_rd h q.1 q.2 := by
  have h1 := List.all_eq_true.mp lx_C0_md q hq
  simp only [Bool.and_eq_true, Nat.blt_eq, decide_eq_true_eq, Bool.not_eq_true'] at h1
  exact f q.1 (by omega) q.2 h1.2.1 p1 p2 p3 h1.2.2
/-- one custom more, of both -/
theorem lx_RC_cu {h h1 h2 : ax_H} {n k : Nat} {C : Int} {g0 g1 : Int → Int} {L : Nat} (hn : 573 ≤ n) (hk : k < 6) (hC : C = (k : Int)) (f1 : pb_f M_cu10 n h h1) (q6 : cu_fr [(2, 1), (137438953472, 2), (1, 8)] n k h h1) (k0 : kpt lx_C0 h1 h2) (p6 : ∀ (k' : Nat) (i' : Int), (k' = 546 ∨ k' = 547 ∨ k' = 548 → i' < 14 * C) → (k' = 542 → i' ≠ 25) → (k' = 542 → i' ≠ 26) → (k' = 542 → i' ≠ 2) → (k' = 542 → i' ≠ 4) → ab_rd h2 k' i' = ab_rd h1 k' i') (q7 : pg_K h1 (123 + 4 * k) (124 + 4 * k) (125 + 4 * k) 0 g0 L) (p7 : pg_K h2 546 547 548 (14 * C) g1 L) (E : ∀ t : Nat, t < L → g0 (t : Int) = g1 (t : Int)) (r : lx_RC h C) : lx_RC h2 (C + 1) := fun j hj => by
  subst hC
  have K := r j hj
  have c0 : ∀ q : Nat × Int, q ∈ [((3 : Nat), (j : Int)), (122 + 4 * j, 0), (122 + 4 * j, 1), (122 + 4 * j, 2)] → ab_rd h1 q.1 q.2 = ab_rd h q.1 q.2 := fun q hq => by
    have hm := lx_C0_r hj hq
    simp only [List.mem_cons, List.not_mem_nil, or_false] at hq
    rcases hq with rfl | rfl | rfl | rfl
    · exact lx_C0_fr hn q6 _ hm (by show (3 : Nat) ≠ _; omega) (by show (3 : Nat) ≠ _; omega) (by show (3 : Nat) ≠ _; omega)
    · exact lx_C0_fr hn q6 _ hm (by show 122 + 4 * j ≠ _; omega) (by show 122 + 4 * j ≠ _; omega) (by show 122 + 4 * j ≠ _; omega)
    · exact lx_C0_fr hn q6 _ hm (by show 122 + 4 * j ≠ _; omega) (by show 122 + 4 * j ≠ _; omega) (by show 122 + 4 * j ≠ _; omega)
    · exact lx_C0_fr hn q6 _ hm (by show 122 + 4 * j ≠ _; omega) (by show 122 + 4 * j ≠ _; omega) (by show 122 + 4 * j ≠ _; omega)
  by_cases e : j = k
  · subst e
    refine ⟨pg_ck_k ((k0 _ (lx_C0_r hj List.mem_cons_self)).trans (c0 _ List.mem_cons_self)) ((k0 _ (lx_C0_r hj (List.mem_cons_of_mem _ List.mem_cons_self))).trans (c0 _ (List.mem_cons_of_mem _ List.mem_cons_self))) ((k0 _ (lx_C0_r hj (List.mem_cons_of_mem _ (List.mem_cons_of_mem _ List.mem_cons_self)))).trans (c0 _ (List.mem_cons_of_mem _ (List.mem_cons_of_mem _ List.mem_cons_self)))) ((k0 _ (lx_C0_r hj (List.mem_cons_of_mem _ (List.mem_cons_of_mem _ (List.mem_cons_of_mem _ List.mem_cons_self))))).trans (c0 _ (List.mem_cons_of_mem _ (List.mem_cons_of_mem _ (List.mem_cons_of_mem _ List.mem_cons_self))))) K.1, fun _ t ht => ?_, fun z => absurd z (by omega)⟩
    obtain ⟨a, b, c⟩ := q7 t ht
    obtain ⟨a', b', c'⟩ := p7 t ht
    rw [Int.zero_add] at a b c
    rw [← pg_k0_eq L t E] at a'
    rw [← pg_kb_eq L t E] at b' c'
    exact ⟨_, _, _, ⟨(k0 _ (lx_C0_in hj ht List.mem_cons_self)).trans a, (k0 _ (lx_C0_in hj ht (List.mem_cons_of_mem _ List.mem_cons_self))).trans b, (k0 _ (lx_C0_in hj ht (List.mem_cons_of_mem _ (List.mem_cons_of_mem _ List.mem_cons_self)))).trans c⟩, a', b', c'⟩
  · have K1 : lx_cu1 h1 (k : Int) j := lx_cu1_of hj c0 (fun t ht q hq => by
      have hm := lx_C0_in hj ht hq
      simp only [List.mem_cons, List.not_mem_nil, or_false] at hq
      rcases hq with rfl | rfl | rfl
      · exact lx_C0_fr hn q6 _ hm (by show 123 + 4 * j ≠ _; omega) (by show 123 + 4 * j ≠ _; omega) (by show 123 + 4 * j ≠ _; omega)
      · exact lx_C0_fr hn q6 _ hm (by show 124 + 4 * j ≠ _; omega) (by show 124 + 4 * j ≠ _; omega) (by show 124 + 4 * j ≠ _; omega)
      · exact lx_C0_fr hn q6 _ hm (by show 125 + 4 * j ≠ _; omega) (by show 125 + 4 * j ≠ _; omega) (by show 125 + 4 * j ≠ _; omega)) (fun _ t ht q hq => by
      simp only [List.mem_cons, List.not_mem_nil, or_false] at hq
      rcases hq with rfl | rfl | rfl
      · exact f1 546 (by omega) (14 * (j : Int) + (t : Int)) (by omega) (md_no (by decide +kernel) _)
      · exact f1 547 (by omega) (14 * (j : Int) + (t : Int)) (by omega) (md_no (by decide +kernel) _)
      · exact f1 548 (by omega) (14 * (j : Int) + (t : Int)) (by omega) (md_no (by decide +kernel) _)) K
    have K2 : lx_cu1 h2 (k : Int) j := lx_cu1_of hj (fun q hq => k0 q (lx_C0_r hj hq)) (fun t ht q hq => k0 q (lx_C0_in hj ht hq)) (fun hjk t ht q hq => by
      simp only [List.mem_cons, List.not_mem_nil, or_false] at hq
      rcases hq with rfl | rfl | rfl
      · exact p6 546 (14 * (j : Int) + (t : Int)) (fun _ => by omega) (fun z => absurd z (by decide)) (fun z => absurd z (by decide)) (fun z => absurd z (by decide)) (fun z => absurd z (by decide))
      · exact p6 547 (14 * (j : Int) + (t : Int)) (fun _ => by omega) (fun z => absurd z (by decide)) (fun z => absurd z (by decide)) (fun z => absurd z (by decide)) (fun z => absurd z (by decide))
      · exact p6 548 (14 * (j : Int) + (t : Int)) (fun _ => by omega) (fun z => absurd z (by decide)) (fun z => absurd z (by decide)) (fun z => absurd z (by decide)) (fun z => absurd z (by decide))) K1
    exact ⟨K2.1, fun z => K2.2.1 (by omega), fun z => K2.2.2 (by omega)⟩
theorem lx_bl (hI : lx_I h n cs ss) : lx_B l G mt_X10_blank mt_X11_blank [.ref 0] [.ref 542] h n cs ss := by
  have hI' := hI
  obtain ⟨hT, -, -, rL, rN, L, C, f, a1, a2, a3, a4, a5, a6, a7⟩ := hI'
  have b1 := ri_of a1
  have b3 := ri_of a3
  obtain ⟨x1, h1, n1, m1, t1, f1, q1, q2⟩ := ex_bl10 (l := l) (G := G) hT
  obtain ⟨x2, h2, n2, m2, t2, f2, p1, p2⟩ := ex_bl11 (l := l) (G := G) t1
  have c2 := (f1 542 (by have := hT.1; omega) 2 (by decide) (by decide +kernel)).trans a2
  obtain rfl : x1 = x2 := i32 q1 p1 (by rw [b1, ri_of c2])
  exact ⟨x1, h1, n1, h2, n2, m1, m2, t1, lx_I_of hI f1 t1 f2 t2 (by decide +kernel) (by decide +kernel) ⟨lx_RL_k (kp_of (by decide +kernel) f2 t1.1) (lx_RL_k (kp_of (by decide +kernel) f1 hT.1) rL), lx_RN_k (kp_of (by decide +kernel) f2 t1.1) (lx_RN_k (kp_of (by decide +kernel) f1 hT.1) rN), Int32.ofInt 0, C, f, (f2 1 (by have := t1.1; omega) 1 (by decide) (by decide +kernel)).trans q2, p2, (f2 0 (by have := t1.1; omega) 8 (by decide) (by decide +kernel)).trans ((f1 0 (by have := hT.1; omega) 8 (by decide) (by decide +kernel)).trans a3), (f2 542 (by have := t1.1; omega) 4 (by decide) (by decide +kernel)).trans ((f1 542 (by have := hT.1; omega) 4 (by decide) (by decide +kernel)).trans a4), ⟨by decide, by decide⟩, fun t ht => absurd ht (by rw [show (Int32.ofInt 0).toInt = 0 from by decide]; omega), lx_RC_k (kp_of (by decide +kernel) f2 t1.1) (lx_RC_k (kp_of (by decide +kernel) f1 hT.1) a7)⟩⟩
theorem lx_go (hI : lx_I h n cs ss) : lx_B l G mt_X10_good mt_X11_good [.ref 0] [.ref 542] h n cs ss := by
  have hI' := hI
  obtain ⟨hT, -, -, rL, rN, L, C, f, a1, a2, a3, a4, a5, a6, a7⟩ := hI'
  have b1 := ri_of a1
  have b3 := ri_of a3
  obtain ⟨x1, h1, n1, m1, t1, f1, q1⟩ := ex_go10 (l := l) (G := G) hT
  obtain ⟨x2, h2, n2, m2, t2, f2, p1, p2⟩ := ex_go11 (l := l) (G := G) t1
  have c2 := (f1 542 (by have := hT.1; omega) 2 (by decide) (by decide +kernel)).trans a2
  have c4 := (f1 542 (by have := hT.1; omega) 4 (by decide) (by decide +kernel)).trans a4
  have E : ∀ t : Nat, (t : Int) < L.toInt → ab_ri h 2 (t : Int) = ab_ri h1 545 (t : Int) := fun t ht => by
    rw [ri_of (a6 t ht).1, ri_of ((f1 545 (by have := hT.1; omega) (t : Int) (by omega) (md_no (by decide +kernel) _)).trans (a6 t ht).2)]
  rw [ri_of c4] at p2
  obtain rfl : x1 = x2 := i32 q1 p1 (by rw [b1, ri_of c2, pg_good_eq L.toInt.toNat (fun t ht => E t (by omega))])
  exact ⟨x1, h1, n1, h2, n2, m1, m2, t1, lx_I_of hI f1 t1 f2 t2 (by decide +kernel) (by decide +kernel) ⟨lx_RL_k (kp_of (by decide +kernel) f2 t1.1) (lx_RL_k (kp_of (by decide +kernel) f1 hT.1) rL), lx_RN_k (kp_of (by decide +kernel) f2 t1.1) (lx_RN_k (kp_of (by decide +kernel) f1 hT.1) rN), (lx_RP_fr c4 (kp_of (by decide +kernel) f2 t1.1) (kp_of (by decide +kernel) f2 t1.1) p2 (lx_RP_k (kp_of (by decide +kernel) f1 hT.1) hI.2.2.2.2.2))⟩⟩
theorem lx_cu (H : ab_Hand l G) (hI : lx_I h n cs ss) : lx_B l G mt_X10_custom mt_X11_custom [.ref 0] [.ref 542] h n cs ss := by
  have hI' := hI
  obtain ⟨hT, -, -, rL, rN, L, C, f, a1, a2, a3, a4, a5, a6, a7⟩ := hI'
  have b1 := ri_of a1
  have b3 := ri_of a3
  obtain ⟨x1, h1, n1, m1, t1, f1, q⟩ := ex_cu10 H hT (fun k hk => (a7 k hk).1) (fun k hk e => lx_K0 ((a7 k hk).2.2 (by rw [← b3, e]; exact Int.le_refl _)))
  obtain ⟨x2, h2, n2, m2, t2, f2, p⟩ := ex_cu11 (l := l) (G := G) t1
  have c2 := (f1 542 (by have := hT.1; omega) 2 (by decide) (by decide +kernel)).trans a2
  have c4 := (f1 542 (by have := hT.1; omega) 4 (by decide) (by decide +kernel)).trans a4
  have E : ∀ t : Nat, (t : Int) < L.toInt → ab_ri h 2 (t : Int) = ab_ri h1 545 (t : Int) := fun t ht => by
    rw [ri_of (a6 t ht).1, ri_of ((f1 545 (by have := hT.1; omega) (t : Int) (by omega) (md_no (by decide +kernel) _)).trans (a6 t ht).2)]
  rw [ri_of c2, ri_of c4] at p
  rw [b1, b3] at q
  have W1 : pg_wh (ab_ri h 2) L.toInt.toNat → pg_wh (ab_ri h1 545) L.toInt.toNat := pg_wh_eq (fun t ht => E t (by omega))
  have W2 : pg_wh (ab_ri h1 545) L.toInt.toNat → pg_wh (ab_ri h 2) L.toInt.toNat := pg_wh_eq (fun t ht => (E t (by omega)).symm)
  rcases q with ⟨q1, q2, q3⟩ | ⟨q1, q2, q3, q4⟩ | ⟨q1, k, hk, q2, q3, q4, q5, q6, q7⟩
  · rcases p with ⟨p1, p2, p3, p4⟩ | ⟨p1, p2, p3, p4, p5⟩ | ⟨p1, p2, p3, p4, p5, p6, p7⟩
    · subst q2 p2
      exact ⟨_, h1, n1, h2, n2, m1, m2, t1, lx_I_of hI f1 t1 f2 t2 (by decide +kernel) (by decide +kernel) ⟨lx_RL_k (kp_of (by decide +kernel) f2 t1.1) (lx_RL_k (kp_of (by decide +kernel) f1 hT.1) rL), lx_RN_k (kp_of (by decide +kernel) f2 t1.1) (lx_RN_k (kp_of (by decide +kernel) f1 hT.1) rN), lx_RP_fr c4 (kp_of (by decide +kernel) p3 t1.1) (kp_of (by decide +kernel) p3 t1.1) p4 (lx_RP_k (kp_of (by decide +kernel) q3 hT.1) hI.2.2.2.2.2)⟩⟩
    · exact absurd (W2 p1) q1
    · exact absurd (W2 p1) q1
  · rcases p with ⟨p1, p2, p3, p4⟩ | ⟨p1, p2, p3, p4, p5⟩ | ⟨p1, p2, p3, p4, p5, p6, p7⟩
    · exact absurd (W1 q1) p1
    · subst q3 p3
      exact ⟨_, h1, n1, h2, n2, m1, m2, t1, lx_I_of hI f1 t1 f2 t2 (by decide +kernel) (by decide +kernel) ⟨lx_RL_k (kp_of (by decide +kernel) f2 t1.1) (lx_RL_k (kp_of (by decide +kernel) f1 hT.1) rL), lx_RN_k (kp_of (by decide +kernel) f2 t1.1) (lx_RN_k (kp_of (by decide +kernel) f1 hT.1) rN), lx_RP_fr c4 (kp_of (by decide +kernel) p4 t1.1) (kp_of (by decide +kernel) p4 t1.1) p5 (lx_RP_k (kp_of (by decide +kernel) q4 hT.1) hI.2.2.2.2.2)⟩⟩
    · exact absurd p2 (by omega)
  · rcases p with ⟨p1, p2, p3, p4⟩ | ⟨p1, p2, p3, p4, p5⟩ | ⟨p1, p2, p3, p4, p5, p6, p7⟩
    · exact absurd (W1 q1) p1
    · exact absurd p2 (by omega)
    · obtain rfl : x1 = x2 := i32 q3 p3 q2.symm
      have q4' : ab_rd h1 0 8 = some (.int (Int32.ofInt (C.toInt + 1))) := by rw [q2]; exact q4
      have hC' : (Int32.ofInt (C.toInt + 1)).toInt = C.toInt + 1 := Int32.toInt_ofInt_of_le (by omega) (by omega)
      have RC : lx_RC h2 (Int32.ofInt (C.toInt + 1)).toInt := by
        rw [hC']
        exact lx_RC_cu (by have := hT.1; omega) hk q2 f1 q6 (kp_of (by decide +kernel) f2 t1.1) p6 q7 p7 (fun t ht => E t (by omega)) a7
      exact ⟨x1, h1, n1, h2, n2, m1, m2, t1, lx_I_of hI f1 t1 f2 t2 (by decide +kernel) (by decide +kernel) ⟨lx_RL_k (kp_of (by decide +kernel) f2 t1.1) (lx_RL_k (kp_of (by decide +kernel) f1 hT.1) rL), lx_RN_k (kp_of (by decide +kernel) f2 t1.1) (lx_RN_k (kp_of (by decide +kernel) f1 hT.1) rN), Int32.ofInt 0, Int32.ofInt (C.toInt + 1), f, (f2 1 (by have := t1.1; omega) 1 (by decide) (by decide +kernel)).trans q5, p5, (f2 0 (by have := t1.1; omega) 8 (by decide) (by decide +kernel)).trans q4', p4, ⟨by decide, by decide⟩, fun t ht => absurd ht (by rw [show (Int32.ofInt 0).toInt = 0 from by decide]; omega), RC⟩⟩
theorem lx_ro (H : ab_Hand l G) (hI : lx_I h n cs ss) (r : Int32) : lx_B l G mt_X10_row mt_X11_row [.ref 0, .int r] [.ref 542, .int r] h n cs ss := by
  have hI' := hI
  obtain ⟨hT, -, -, rL, rN, L, C, f, a1, a2, a3, a4, a5, a6, a7⟩ := hI'
  have b1 := ri_of a1
  have b3 := ri_of a3
  obtain ⟨x1, h1, n1, m1, t1, f1, q⟩ := ex_ro10 H hT r
  obtain ⟨x2, h2, n2, m2, t2, f2, p⟩ := ex_ro11 H t1 r
  have c2 := (f1 542 (by have := hT.1; omega) 2 (by decide) (by decide +kernel)).trans a2
  have c4 := (f1 542 (by have := hT.1; omega) 4 (by decide) (by decide +kernel)).trans a4
  have E : ∀ t : Nat, (t : Int) < L.toInt → ab_ri h 2 (t : Int) = ab_ri h1 545 (t : Int) := fun t ht => by
    rw [ri_of (a6 t ht).1, ri_of ((f1 545 (by have := hT.1; omega) (t : Int) (by omega) (md_no (by decide +kernel) _)).trans (a6 t ht).2)]
  rw [ri_of c2] at p
  rw [b1] at q
  have W1 : pg_row (ab_ri h 2) L.toInt → pg_row (ab_ri h1 545) L.toInt := pg_row_eq (fun t ht => E t ht)
  have W2 : pg_row (ab_ri h1 545) L.toInt → pg_row (ab_ri h 2) L.toInt := pg_row_eq (fun t ht => (E t ht).symm)
  rcases q with ⟨q1, q2, q3⟩ | ⟨q1, q2, q3, q4⟩ | ⟨q1, q2, q3, q5⟩
  · rcases p with ⟨p1, p2, p3⟩ | ⟨p1, p2, p3, p4⟩ | ⟨p1, p2, p3, p5⟩
    · subst q2 p2
      exact ⟨_, h1, n1, h2, n2, m1, m2, t1, lx_I_of hI f1 t1 f2 t2 (by decide +kernel) (by decide +kernel) (lx_R_k (kp_of (by decide +kernel) p3 t1.1) (lx_R_k (kp_of (by decide +kernel) q3 hT.1) hI.2.2.2))⟩
    · exact absurd p1 q1
    · exact absurd p1 q1
  · rcases p with ⟨p1, p2, p3⟩ | ⟨p1, p2, p3, p4⟩ | ⟨p1, p2, p3, p5⟩
    · exact absurd q1 p1
    · subst q3 p3
      exact ⟨_, h1, n1, h2, n2, m1, m2, t1, lx_I_of hI f1 t1 f2 t2 (by decide +kernel) (by decide +kernel) (lx_R_k (kp_of (by decide +kernel) p4 t1.1) (lx_R_k (kp_of (by decide +kernel) q4 hT.1) hI.2.2.2))⟩
    · exact absurd (W2 p2) q2
  · rcases p with ⟨p1, p2, p3⟩ | ⟨p1, p2, p3, p4⟩ | ⟨p1, p2, p3, p5⟩
    · exact absurd q1 p1
    · exact absurd (W1 q2) p2
    · obtain rfl : x1 = x2 := i32 q3 p3 rfl
      exact ⟨x1, h1, n1, h2, n2, m1, m2, t1, lx_I_of hI f1 t1 f2 t2 (by decide +kernel) (by decide +kernel) ⟨lx_RL_k (kp_of (by decide +kernel) f2 t1.1) (lx_RL_k (kp_of (by decide +kernel) f1 hT.1) rL), lx_RN_k (kp_of (by decide +kernel) f2 t1.1) (lx_RN_k (kp_of (by decide +kernel) f1 hT.1) rN), Int32.ofInt 0, C, f, (f2 1 (by have := t1.1; omega) 1 (by decide) (by decide +kernel)).trans q5, p5, (f2 0 (by have := t1.1; omega) 8 (by decide) (by decide +kernel)).trans ((f1 0 (by have := hT.1; omega) 8 (by decide) (by decide +kernel)).trans a3), (f2 542 (by have := t1.1; omega) 4 (by decide) (by decide +kernel)).trans c4, ⟨by decide, by decide⟩, fun t ht => absurd ht (by rw [show (Int32.ofInt 0).toInt = 0 from by decide]; omega), lx_RC_k (kp_of (by decide +kernel) f2 t1.1) (lx_RC_k (kp_of (by decide +kernel) f1 hT.1) a7)⟩⟩
theorem lx_st (hI : lx_I h n cs ss) : lx_B l G mt_X10_stone mt_X11_stone [.ref 0] [.ref 542] h n cs ss := by
  have hI' := hI
  obtain ⟨hT, -, -, rL, rN, L, C, f, a1, a2, a3, a4, a5, a6, a7⟩ := hI'
  have b1 := ri_of a1
  have b3 := ri_of a3
  obtain ⟨x1, h1, n1, m1, t1, f1, q⟩ := ex_st10 (l := l) (G := G) hT
  obtain ⟨x2, h2, n2, m2, t2, f2, p⟩ := ex_st11 (l := l) (G := G) t1
  have c2 := (f1 542 (by have := hT.1; omega) 2 (by decide) (by decide +kernel)).trans a2
  have c4 := (f1 542 (by have := hT.1; omega) 4 (by decide) (by decide +kernel)).trans a4
  have E : ∀ t : Nat, (t : Int) < L.toInt → ab_ri h 2 (t : Int) = ab_ri h1 545 (t : Int) := fun t ht => by
    rw [ri_of (a6 t ht).1, ri_of ((f1 545 (by have := hT.1; omega) (t : Int) (by omega) (md_no (by decide +kernel) _)).trans (a6 t ht).2)]
  rw [ri_of c2] at p
  rw [b1] at q
  have W1 : pg_st (ab_ri h 2) L.toInt → pg_st (ab_ri h1 545) L.toInt := pg_st_eq (fun t ht => E t ht)
  have W2 : pg_st (ab_ri h1 545) L.toInt → pg_st (ab_ri h 2) L.toInt := pg_st_eq (fun t ht => (E t ht).symm)
  rcases q with ⟨q1, q2, q3⟩ | ⟨q1, q3, q5⟩
  · rcases p with ⟨p1, p2, p3⟩ | ⟨p1, p3, p5⟩
    · subst q2 p2
      have g1 : pb_f [] n h h1 := pb_f_same q3
      have g2 : pb_f [] n1 h1 h2 := pb_f_same p3
      exact ⟨_, h1, n1, h2, n2, m1, m2, t1, lx_I_of hI f1 t1 f2 t2 (by decide +kernel) (by decide +kernel) (lx_R_k (kp_of (by decide +kernel) g2 t1.1) (lx_R_k (kp_of (by decide +kernel) g1 hT.1) hI.2.2.2))⟩
    · exact absurd (W2 p1) q1
  · rcases p with ⟨p1, p2, p3⟩ | ⟨p1, p3, p5⟩
    · exact absurd (W1 q1) p1
    · obtain rfl : x1 = x2 := i32 q3 p3 (pg_po_eq (fun t ht => E t ht))
      exact ⟨x1, h1, n1, h2, n2, m1, m2, t1, lx_I_of hI f1 t1 f2 t2 (by decide +kernel) (by decide +kernel) ⟨lx_RL_k (kp_of (by decide +kernel) f2 t1.1) (lx_RL_k (kp_of (by decide +kernel) f1 hT.1) rL), lx_RN_k (kp_of (by decide +kernel) f2 t1.1) (lx_RN_k (kp_of (by decide +kernel) f1 hT.1) rN), Int32.ofInt 0, C, f, (f2 1 (by have := t1.1; omega) 1 (by decide) (by decide +kernel)).trans q5, p5, (f2 0 (by have := t1.1; omega) 8 (by decide) (by decide +kernel)).trans ((f1 0 (by have := hT.1; omega) 8 (by decide) (by decide +kernel)).trans a3), (f2 542 (by have := t1.1; omega) 4 (by decide) (by decide +kernel)).trans c4, ⟨by decide, by decide⟩, fun t ht => absurd ht (by rw [show (Int32.ofInt 0).toInt = 0 from by decide]; omega), lx_RC_k (kp_of (by decide +kernel) f2 t1.1) (lx_RC_k (kp_of (by decide +kernel) f1 hT.1) a7)⟩⟩
theorem lx_le (hI : lx_I h n cs ss) (w : Int64) : lx_B l G mt_X10_letters mt_X11_letters [.ref 0, .long w] [.ref 542, .long w] h n cs ss := by
  have hI' := hI
  obtain ⟨hT, -, -, rL, rN, L, C, f, a1, a2, a3, a4, a5, a6, a7⟩ := hI'
  have b1 := ri_of a1
  have b3 := ri_of a3
  obtain ⟨x1, h1, n1, m1, t1, f1, q⟩ := ex_le10 (l := l) (G := G) hT w
  obtain ⟨x2, h2, n2, m2, t2, f2, p⟩ := ex_le11 (l := l) (G := G) t1 w
  have c2 := (f1 542 (by have := hT.1; omega) 2 (by decide) (by decide +kernel)).trans a2
  have hl8 := pg_ln_le w 8
  rw [ri_of c2] at p
  rw [b1] at q
  rcases q with ⟨q1, q2, q3⟩ | ⟨q1, q2, q3, q4⟩ | ⟨q1, q2, q3, q4, q5, q6⟩
  · rcases p with ⟨p1, p2, p3⟩ | ⟨p1, p2, p3, p4⟩ | ⟨p1, p2, p3, p4, p5, p6⟩
    · subst q2 p2
      have g1 : pb_f [] n h h1 := pb_f_same q3
      have g2 : pb_f [] n1 h1 h2 := pb_f_same p3
      exact ⟨_, h1, n1, h2, n2, m1, m2, t1, lx_I_of hI f1 t1 f2 t2 (by decide +kernel) (by decide +kernel) (lx_R_k (kp_of (by decide +kernel) g2 t1.1) (lx_R_k (kp_of (by decide +kernel) g1 hT.1) hI.2.2.2))⟩
    · exact absurd p1 q1
    · exact absurd p1 q1
  · rcases p with ⟨p1, p2, p3⟩ | ⟨p1, p2, p3, p4⟩ | ⟨p1, p2, p3, p4, p5, p6⟩
    · exact absurd q1 p1
    · subst q3 p3
      have g1 : pb_f [] n h h1 := pb_f_same q4
      have g2 : pb_f [] n1 h1 h2 := pb_f_same p4
      exact ⟨_, h1, n1, h2, n2, m1, m2, t1, lx_I_of hI f1 t1 f2 t2 (by decide +kernel) (by decide +kernel) (lx_R_k (kp_of (by decide +kernel) g2 t1.1) (lx_R_k (kp_of (by decide +kernel) g1 hT.1) hI.2.2.2))⟩
    · exact absurd q2 (by omega)
  · rcases p with ⟨p1, p2, p3⟩ | ⟨p1, p2, p3, p4⟩ | ⟨p1, p2, p3, p4, p5, p6⟩
    · exact absurd q1 p1
    · exact absurd q2 (by omega)
    · obtain rfl : x1 = x2 := i32 q3 p3 rfl
      obtain ⟨v1, u1, u2⟩ := mc_fdi (mc_HW_of t1) (k := 1) (j := 1) (ci := 4) rfl rfl
      obtain ⟨v2, u3, u4⟩ := mc_fdi (mc_HW_of t2) (k := 542) (j := 2) (ci := 11) rfl rfl
      have u2' : v1.toInt = L.toInt + (pg_ln w 8 : Int) := u2.trans q4
      have u4' : v2.toInt = L.toInt + (pg_ln w 8 : Int) := u4.trans p4
      obtain rfl : v1 = v2 := i32 u2' u4' rfl
      refine ⟨x1, h1, n1, h2, n2, m1, m2, t1, lx_I_of hI f1 t1 f2 t2 (by decide +kernel) (by decide +kernel) ⟨lx_RL_k (kp_of (by decide +kernel) f2 t1.1) (lx_RL_k (kp_of (by decide +kernel) f1 hT.1) rL), lx_RN_k (kp_of (by decide +kernel) f2 t1.1) (lx_RN_k (kp_of (by decide +kernel) f1 hT.1) rN), v1, C, fun t => if (t : Int) < L.toInt then f t else lt_c w (t - L.toInt.toNat), (f2 1 (by have := t1.1; omega) 1 (by decide) (by decide +kernel)).trans u1, u3, (f2 0 (by have := t1.1; omega) 8 (by decide) (by decide +kernel)).trans ((f1 0 (by have := hT.1; omega) 8 (by decide) (by decide +kernel)).trans a3), (f2 542 (by have := t1.1; omega) 4 (by decide) (by decide +kernel)).trans ((f1 542 (by have := hT.1; omega) 4 (by decide) (by decide +kernel)).trans a4), ⟨by omega, by omega⟩, fun t ht => ?_, lx_RC_k (kp_of (by decide +kernel) f2 t1.1) (lx_RC_k (kp_of (by decide +kernel) f1 hT.1) a7)⟩⟩
      by_cases ht2 : (t : Int) < L.toInt
      · simp only [if_pos ht2]
        refine ⟨(f2 2 (by have := t1.1; omega) (t : Int) (by omega) (md_no (by decide +kernel) _)).trans ((q6 2 (t : Int) (fun _ => ht2) (fun z => absurd z (by decide))).trans (a6 t ht2).1), (p6 545 (t : Int) (fun _ => ht2) (fun z => absurd z (by decide))).trans ((f1 545 (by have := hT.1; omega) (t : Int) (by omega) (md_no (by decide +kernel) _)).trans (a6 t ht2).2)⟩
      · simp only [if_neg ht2]
        have e1 := q5 (t - L.toInt.toNat) (by omega)
        have e2 := p5 (t - L.toInt.toNat) (by omega)
        rw [show L.toInt + ((t - L.toInt.toNat : Nat) : Int) = (t : Int) by omega] at e1 e2
        exact ⟨(f2 2 (by have := t1.1; omega) (t : Int) (by omega) (md_no (by decide +kernel) _)).trans e1, e2⟩
end LR
